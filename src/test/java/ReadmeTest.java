import java.io.IOException;
import java.net.URL;
import java.net.URLClassLoader;
import java.nio.file.Files;
import java.nio.file.Path;
import java.util.function.Supplier;
import java.util.regex.Matcher;
import java.util.regex.Pattern;
import java.util.stream.Stream;
import javax.tools.JavaCompiler;
import javax.tools.ToolProvider;

/**
 * The lines of Java in README.md, as somebody would copy them: a number or an exception in the comment behind
 * a line is what this line must answer. Run from the project's folder.
 */
public final class ReadmeTest {
    private static final Checks CHECKS = new Checks("ReadmeTest");
    private static final Pattern BLOCK = Pattern.compile("```java\n(.*?)```", Pattern.DOTALL);
    private static final Pattern TOLD =
        Pattern.compile("^(?:int (\\w+) = )?(archive\\..*);\\s+// (-?\\d+|\\w+Exception)\\b.*$");

    private ReadmeTest() {
    }

    public static void main(String[] args) throws Exception {
        String readme = Files.readString(Path.of("README.md"));
        everyTestIsNamed(readme);
        Matcher block = BLOCK.matcher(readme);
        int blocks = 0;
        while (block.find()) {
            blocks++;
            answers("Readme" + blocks, block.group(1));
        }
        CHECKS.same("blocks of Java", 2, blocks);
        CHECKS.end();
    }

    private static void everyTestIsNamed(String readme) throws IOException {
        try (Stream<Path> files = Files.list(Path.of("src/test/java"))) {
            files.map(file -> file.getFileName().toString().replace(".java", ""))
                .filter(name -> name.endsWith("Test"))
                .forEach(name -> CHECKS.isTrue(name + " is not told of", readme.contains("| `" + name + "` |")));
        }
    }

    /** The block as a class whose method get answers a line for each comment: what is due, and what came. */
    private static String source(String name, String block) {
        StringBuilder code = new StringBuilder("public final class " + name
            + " implements java.util.function.Supplier<String> {\npublic String get() {\n"
            + "StringBuilder all = new StringBuilder();\n");
        for (String line : block.split("\n")) {
            Matcher told = TOLD.matcher(line);
            if (!told.matches()) {
                code.append(line).append('\n');
            } else if (told.group(1) != null) {
                code.append(line).append("\nall.append(").append(told.group(1)).append(").append('\\n');\n");
            } else {
                code.append("try { all.append(").append(told.group(2)).append(").append('\\n'); }\n")
                    .append("catch (RuntimeException e) { all.append(e.getClass().getSimpleName()).append('\\n'); }\n");
            }
        }
        return code.append("return all.toString();\n}\n}\n").toString();
    }

    private static String run(String name, String source) throws Exception {
        Path folder = Files.createTempDirectory("readme");
        Path file = folder.resolve(name + ".java");
        Files.writeString(file, source);
        JavaCompiler compiler = ToolProvider.getSystemJavaCompiler();
        int failed = compiler.run(null, null, null, "-cp", System.getProperty("java.class.path"), "-d",
            folder.toString(), file.toString());
        CHECKS.same(name + " compiles", 0, failed);
        String told = "";
        if (failed == 0) {
            try (URLClassLoader loader = new URLClassLoader(new URL[] {folder.toUri().toURL()})) {
                told = (String) ((Supplier<?>) loader.loadClass(name).getDeclaredConstructor().newInstance()).get();
            }
        }
        Files.deleteIfExists(folder.resolve(name + ".class"));
        Files.delete(file);
        Files.delete(folder);
        return told;
    }

    private static void answers(String name, String block) throws Exception {
        String[] came = run(name, source(name, block)).split("\n");
        int k = 0;
        for (String line : block.split("\n")) {
            Matcher told = TOLD.matcher(line);
            if (told.matches()) {
                CHECKS.same(told.group(2), told.group(3), k < came.length ? came[k] : "nothing");
                k++;
            }
        }
        CHECKS.isTrue(name + " tells answers", k > 10);
    }
}
