import java.lang.management.ManagementFactory;

/**
 * The room of a run: some 600,000 objects and 7.3 million fields and elements for at most 512 calls.
 * Everything is made with the object, so calls that throw nothing must make next to nothing.
 */
public final class RoomTest {
    private static final Checks CHECKS = new Checks("RoomTest");
    private static final com.sun.management.ThreadMXBean BEAN =
        (com.sun.management.ThreadMXBean) ManagementFactory.getThreadMXBean();
    /** At most three calls a time, and those that fill the archive: less than 512. */
    private static final int TIMES = 100;
    private static final int KINDS = 27;

    private RoomTest() {
    }

    public static void main(String[] args) {
        // The first object of all also loads the classes, which is no room of the run.
        fill(new BillArchive());
        long before = allocated();
        new BillArchive();
        CHECKS.isTrue("a new object is small", allocated() - before < 64 * 1024);
        for (int kind = 0; kind < KINDS; kind++) {
            BillArchive filled = new BillArchive();
            fill(filled);
            measure(filled, kind);
        }
        CHECKS.end();
    }

    private static long allocated() {
        return BEAN.getThreadAllocatedBytes(Thread.currentThread().getId());
    }

    private static void fill(BillArchive x) {
        for (int a = 0; a < 10; a++) {
            x.addActor(a);
        }
        for (int p = 0; p < 6; p++) {
            x.addPart();
            x.cast(p, p, 0);
            for (int a = 6; a < 9; a++) {
                x.understudy(p, a);
            }
        }
        for (int n = 0; n < 20; n++) {
            x.slip(n, n % 6, 9 - n % 10, n);
        }
        x.append('B');
        for (int i = 1; i < 120; i++) {
            x.append('p');
        }
        x.save(0);
    }

    private static void measure(BillArchive x, int kind) {
        call(x, kind, 0);
        long before = allocated();
        for (int i = 0; i < TIMES; i++) {
            call(x, kind, i);
        }
        long bytes = allocated() - before;
        CHECKS.isTrue("calls of kind " + kind + " make " + bytes + " bytes", bytes < 16 * 1024);
    }

    private static void call(BillArchive x, int kind, int i) {
        switch (kind) {
            case 0 -> x.bestUnderstudy(i % 6);
            case 1 -> x.needed();
            case 2 -> x.simulate(i, 60);
            case 3 -> x.runScript(3, 103059001990020L);
            case 4 -> x.about(i % 7);
            case 5 -> x.ifIll(i % 10, i % 20, i % 2);
            case 6 -> x.together(i % 10, i % 7);
            case 7 -> x.longest(i % 6, i % 10);
            case 8 -> x.find(i % 6, i % 10, i);
            case 9 -> x.actor(i % 10, i % 6);
            case 10 -> x.set(0, i % 100);
            case 11 -> x.save(1);
            case 12 -> x.restore(0);
            case 13 -> x.errorPosition();
            case 14 -> x.ill(i % 10, i % 20, i % 3 > 0);
            case 15 -> x.played(i % 20, i % 6);
            case 16 -> x.bill(i % 20, i % 6, i % 4);
            case 17 -> x.night(i % 20, i % 5);
            case 18 -> x.ranked(i % 6, i % 5);
            case 19 -> x.found(i % 20, i % 5);
            case 20 -> x.setting(i % 2);
            case 21 -> x.cast(i % 6, i % 10, i % 20);
            default -> severalCalls(x, kind, i);
        }
    }

    /** Calls that belong together, or would soon be refused if they stood alone. */
    private static void severalCalls(BillArchive x, int kind, int i) {
        switch (kind) {
            case 22 -> {
                x.load();
                x.save(0);
            }
            case 23 -> {
                x.clearText();
                x.append(i);
            }
            case 24 -> {
                x.load();
                x.addActor(i % 10);
                x.undo();
            }
            case 25 -> {
                x.lose(i % 20);
                x.slip(i % 20, i % 6, i % 10, i % 24);
            }
            default -> {
                x.release(i % 6, 7);
                x.understudy(i % 6, 7);
            }
        }
    }
}
