import java.io.IOException;
import java.io.UncheckedIOException;
import java.nio.file.Files;
import java.nio.file.Path;

/** Counts what a test finds wrong, and ends the test with exit code 1 if there was anything. */
final class Checks {
    /** A call whose answer, or whose exception, is looked at. */
    interface Call {
        long answer();
    }

    static final Class<IndexOutOfBoundsException> INDEX = IndexOutOfBoundsException.class;
    static final Class<IllegalArgumentException> ARGUMENT = IllegalArgumentException.class;
    static final Class<IllegalStateException> STATE = IllegalStateException.class;

    private final String name;
    private String document;
    private String sentence = "";
    private int madeBefore;
    private int sentences;
    private int made;
    private int wrong;

    Checks(String name) {
        this.name = name;
    }

    /** Says which words of the document the next checks are about; they must stand there just so. */
    void sentence(String words) {
        endSentence();
        sentence = words;
        sentences++;
        if (!document().contains(words)) {
            report("the document does not say this");
        }
    }

    private void endSentence() {
        if (!sentence.isEmpty() && made == madeBefore) {
            report("nothing is checked");
        }
        madeBefore = made;
        sentence = "";
    }

    /** The document's words, with one blank wherever it has blanks or begins a line. */
    String document() {
        if (document == null) {
            try {
                document = Files.readString(Path.of("../shared/DOC.md")).replaceAll("\\s+", " ");
            } catch (IOException e) {
                throw new UncheckedIOException(e);
            }
        }
        return document;
    }

    void same(String label, long want, long got) {
        made++;
        if (want != got) {
            report(label + ": answered " + got + ", due is " + want);
        }
    }

    void same(String label, String want, String got) {
        made++;
        if (!want.equals(got)) {
            report(label + ": answered " + got + ", due is " + want);
        }
    }

    void isTrue(String label, boolean holds) {
        made++;
        if (!holds) {
            report(label);
        }
    }

    /** The call must throw just this exception, and change nothing that can ever come to light. */
    void refuses(String label, Recorded archive, Class<? extends RuntimeException> want, Call call) {
        String before = Views.of(archive);
        String thrown = outcome(call);
        same(label, want.getSimpleName(), thrown);
        same(label + " changes nothing", before, Views.of(archive));
    }

    /** The answer of a call as a text, or the name of what it throws. */
    static String outcome(Call call) {
        try {
            return Long.toString(call.answer());
        } catch (RuntimeException e) {
            return e.getClass().getSimpleName();
        }
    }

    private void report(String text) {
        wrong++;
        if (wrong <= 30) {
            System.out.println(name + ": " + (sentence.isEmpty() ? "" : "\"" + sentence + "\": ") + text);
        }
    }

    void end() {
        endSentence();
        String told = sentences == 0 ? "" : sentences + " sentences, ";
        System.out.println(name + ": " + told + made + " checks, " + wrong + " wrong");
        if (wrong > 0) {
            System.exit(1);
        }
    }
}
