import java.lang.management.ManagementFactory;

/** All that a run makes lives in one room; this looks that the dearest runs stay far below its size. */
public final class RoomTest {
    /** 7.3 million fields and elements, at four bytes at least. */
    private static final long ROOM = 7_300_000L * 4;

    private static int wrong = 0;

    private static long made() {
        return ((com.sun.management.ThreadMXBean) ManagementFactory.getThreadMXBean()).getCurrentThreadAllocatedBytes();
    }

    private static void look(String what, long before) {
        long bytes = made() - before;
        boolean isSmall = bytes < ROOM / 8;
        if (!isSmall) wrong++;
        System.out.println("room: " + what + " made " + bytes + " bytes" + (isSmall ? "" : ", which is too much"));
    }

    public static void main(String[] args) {
        made();
        newObjects();
        acts();
        fullCoast();
        if (wrong != 0) System.exit(1);
    }

    private static void newObjects() {
        long before = made();
        for (int i = 0; i < 512; i++) new LightList().about(0);
        look("512 new objects", before);
    }

    private static void acts() {
        long before = made();
        LightList x = new LightList();
        for (int i = 0; i < 512; i++) {
            if (i % 2 == 0) x.mark(i % 100, 5);
            else x.undo(1);
        }
        look("256 marks", before);
    }

    /** A coast as full as it can be, with questions that have the most to look at. */
    private static void fullCoast() {
        LightList x = full();
        long before = made();
        long begun = System.nanoTime();
        for (int i = 0; i < 20; i++) {
            x.cross(20);
            x.square(20, 9999);
            x.ask(i);
            x.check(0);
            x.give(6, 0);
        }
        look("100 questions of a full coast (" + (System.nanoTime() - begun) / 1_000_000 + " ms)", before);
    }

    private static LightList full() {
        LightList x = new LightList();
        for (int i = 0; i < 60; i++) {
            for (int k = 0; k < 24; k++) x.span(k < 23 ? 1 : 1 + i);
            x.light(i, 4, 0, 0, 0, 2000, 1);
            for (int k = 0; k < 8; k++) x.direct(i, 100 + k, k, k < 7 ? 3 : 2);
        }
        for (int i = 0; i < 100; i++) x.notice(i % 60, 2, 1, 1, 0, -1, 0);
        for (int i = 0; i < 100; i++) {
            x.sight(500, 500, 20, 2 + i % 2, 50, 0);
            x.bear(i, 1, 1);
        }
        for (int i = 0; i < 12; i++) {
            for (int k = 0; k < 24; k++) x.span(k < 23 ? 2 : 100 + i);
            x.offer();
        }
        return x;
    }
}
