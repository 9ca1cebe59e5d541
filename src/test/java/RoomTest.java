import java.lang.management.ManagementFactory;

/** All calls of a run live in one room: what an object takes, and that its dearest calls make nothing. */
public final class RoomTest {
    private static final String DEAREST = "hundred days 16 law 2 odds 5;"
            + "field corn 300 rooks 40;".repeat(5) + "hedge 0 1;hedge 1 2;hedge 2 3;hedge 3 4;hedge 4 0;hedge 0 2;"
            + "man frights 40 tires 9;".repeat(5) + "voter hats 9 0 1 2 3 4;voter hats 1 4 3 2 1 0;".repeat(3)
            + "voter hats 3 2 1 0;";

    private RoomTest() { }

    private static long taken() {
        return ((com.sun.management.ThreadMXBean) ManagementFactory.getThreadMXBean()).getCurrentThreadAllocatedBytes();
    }

    public static void main(String[] args) {
        taken();
        RookHusting x = Check.told(DEAREST);
        work(x, 0);
        long before = taken();
        for (int i = 0; i < 24; i++) {
            work(x, i);
        }
        long bytes = taken() - before;
        Check.that("calls make nothing: " + bytes, bytes < 2000);
        long start = taken();
        new RookHusting();
        long object = taken() - start;
        Check.that("an object is small: " + object, object < 40000);
        System.out.println("a new object takes " + object + " bytes, " + 24 * 24 + " calls take " + bytes);
        Check.finish();
    }

    private static void work(RookHusting x, int i) {
        x.anew();
        x.rate(i % 5, i);
        x.puts(i % 5, i % 5);
        x.speaks(i % 5, i % 16);
        x.best();
        x.plain();
        x.least(i % 5);
        x.power(i % 7, 0);
        x.row(0, 3, 3);
        x.may(0, 0);
        x.ask(0, 0);
        x.leaves(0, 0);
        x.rests(0, 1);
        x.speech();
        x.gap();
        x.law();
        x.chance(0, 7, 100, 0);
        x.mean(7, 0);
        x.luck(i, 20, 0);
        x.image(0);
        x.back(0);
        x.feed(i, i, i, i, i);
        x.hundred();
        x.end(0);
    }
}
