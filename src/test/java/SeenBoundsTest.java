/** The edges of promises 54 to 56: rows that were seen, their SLOTS, FIELDS and numbers, and what is left by them. */
public final class SeenBoundsTest {
    /**
     * Rooks of FIELD 0 on the DAYS 0, 1, 2 if there stands 0: 10 4 6, 1: 10 0 0, 2: 10 4 10, nobody: 10 10 10; of FIELD 1, in
     * which 1 stands, if he is not asked for: 0 6 4, 0 10 10, 0 6 0, 0 0 0.
     */
    private static final String TEN = "hundred days 2 law 0 odds 0;field corn 9 rooks 10;field corn 9 rooks 0;hedge 0 1;"
            + "man frights 6 tires 0;man frights 20 tires 0;man frights 6 tires 6;voter hats 1 0;";

    private SeenBoundsTest() { }

    public static void main(String[] args) {
        slots();
        rowLengths();
        numbers();
        widths();
        refusalsInOrder();
        noMen();
        fiveMen();
        whoStandsElsewhere();
        asked();
        askedOnTheLastDay();
        leftAtWorst();
        actsStay();
        Check.finish();
    }

    /** Calls that write a row of three into a SLOT. */
    private static String row(int slot, int width, int field, int day, long rooks) {
        return "row(" + slot + ", " + width + ", 3) write(" + slot + ", 0, " + field + ") write(" + slot + ", 1, " + day
                + ") write(" + slot + ", 2, " + rooks + ") ";
    }

    private static void slots() {
        Run x = Run.told("Promises 54 to 56: -6: it has nothing", TEN);
        x.each(-6, "may(0, 0) may(3, 1) ask(0, 0) ask(3, 1) leaves(0, 0) leaves(3, 1)");
        x.each(-2, "may(4, 0) may(-1, 0) ask(4, 0) ask(-1, 0) leaves(4, 0) leaves(-1, 0) may(MAX, 0) may(MIN, 0)");
        x.after("row(3, 0, 0)").due("may(3, 0) ask(3, 0) leaves(3, 0) may(2, 0)", 39, 1, 2, -6);
    }

    private static void rowLengths() {
        Run x = Run.told("Promises 54 to 56: three numbers each", TEN);
        x.after("row(0, 0, 0)").due("may(0, 0) ask(0, 0) leaves(0, 0)", 39, 1, 2);
        for (int n : new int[] {1, 2, 4, 5, 58, 59}) {
            x.after("row(0, 0, " + n + ")").due("may(0, 0) ask(0, 0) leaves(0, 0)", -2, -2, -2);
        }
        // FIELD 0, DAY 0, rooks 0 is nobody's; with 10 it is all's
        x.after("row(0, 0, 3)").due("may(0, 0)", 0).after("write(0, 2, 10)").due("may(0, 0)", 39);
        x.after("row(0, 1, 60)");
        for (int i = 2; i < 60; i += 3) {
            x.due("may(0, 0) write(0, " + i + ", 10)", 0, 0);
        }
        x.due("may(0, 0)", 39);
        x.after("write(0, 58, 1) write(0, 59, 4)").due("may(0, 0)", 5).after("write(0, 55, 1) write(0, 56, 0)").due("may(0, 0)", 0);
        x.after("write(0, 59, 251)").due("may(0, 0)", -2).after("write(0, 59, 0) write(0, 57, 2)").due("may(0, 0)", -2);
    }

    private static void numbers() {
        Run x = Run.told("Promise 54: a number is none such", TEN);
        x.after(row(0, 3, 0, 1, 4)).due("may(0, 0)", 5);
        x.after(row(0, 3, 1, 1, 6)).due("may(0, 0)", 5).after(row(0, 3, 2, 1, 6)).due("may(0, 0)", -2);
        x.after(row(0, 3, -1, 1, 6)).due("may(0, 0)", -2);
        x.after(row(0, 3, 0, 2, 6)).due("may(0, 0)", 1).after(row(0, 3, 0, 3, 6)).due("may(0, 0)", -2);
        x.after(row(0, 3, 0, 0, 10)).due("may(0, 0)", 39).after(row(0, 3, 0, -1, 10)).due("may(0, 0)", -2);
        x.after(row(0, 3, 0, 1, 0)).due("may(0, 0)", 2).after(row(0, 3, 0, 1, -1)).due("may(0, 0)", -2);
        x.after(row(0, 3, 0, 1, 250)).due("may(0, 0) ask(0, 0) leaves(0, 0)", 0, -1, 0);
        x.after(row(0, 3, 0, 1, 251)).due("may(0, 0) ask(0, 0) leaves(0, 0)", -2, -2, -2);
        x.after(row(0, 3, 0, 1, Long.MAX_VALUE)).due("may(0, 0)", -2).after(row(0, 3, 0, 1, Long.MIN_VALUE)).due("may(0, 0)", -2);
        x.after(row(0, 3, 0, 1, 4294967300L)).due("may(0, 0)", -2).after(row(0, 3, 0, 1, -4294967292L)).due("may(0, 0)", -2);
        Run.told("Promise 54: FIELDS told ahead of a new HUNDRED are none such", TEN).after(row(0, 0, 1, 2, 4))
                .due("may(0, 0)", 1).feed("hundred days 2 law 0 odds 0;field corn 1 rooks 1;")
                .due("hundred() may(0, 0) count(10)", 2, -2, 1);
        Run.told("Promise 54: DAYS told ahead of a new HUNDRED are none such", TEN).after(row(0, 0, 0, 2, 4))
                .feed("hundred days 1 law 0 odds 0;field corn 1 rooks 1;").due("hundred() may(0, 0)", 2, -2);
    }

    private static void widths() {
        Run x = Run.told("Promise 54: numbers as they are cut", TEN);
        x.after(row(0, 0, 0, 1, 256 + 4)).due("may(0, 0)", 5).after(row(0, 0, 256, 257, 4 - 256)).due("may(0, 0)", 5);
        x.after(row(0, 1, 65536, 65537, 65536 + 4)).due("may(0, 0)", 5).after(row(0, 1, 0, 1, 256 + 4)).due("may(0, 0)", -2);
        x.after(row(0, 2, 0, 1, 4294967300L)).due("may(0, 0)", 5).after(row(0, 2, 0, 1, 65536 + 4)).due("may(0, 0)", -2);
        // a number of one byte is Java's byte: 128 and more are below 0
        x.after(row(0, 0, 0, 1, 127)).due("may(0, 0)", 0).after(row(0, 0, 0, 1, 128)).due("may(0, 0)", -2);
        x.after(row(0, 1, 0, 1, 128)).due("may(0, 0)", 0).after(row(0, 1, 0, 1, 65535)).due("may(0, 0)", -2);
    }

    private static void refusalsInOrder() {
        Run x = Run.told("Promise 54: -2 is asked ahead of -6", TEN);
        x.each(-2, "may(0, 2) may(0, -1) ask(0, 2) ask(0, -1) leaves(0, 2) leaves(0, -1) may(4, 2) may(1, MAX)");
        x.due("may(0, 1) ask(0, 1) leaves(0, 1)", -6, -6, -6);
        x.after(row(0, 0, 0, 1, 4)).each(-2, "may(0, 2) may(0, -1) ask(0, 2) ask(0, -1) leaves(0, 2) leaves(0, -1)");
        Run.told("Promise 54: no FIELDS", "hundred days 1 law 0 odds 0;").each(-2, "may(0, 0) ask(0, 0) leaves(0, 0)")
                .after("row(0, 0, 0)").each(-2, "may(0, 0) ask(0, 0) leaves(0, 0)");
        new Run("Promise 54: no HUNDRED").each(-2, "may(0, 0) ask(0, 0) leaves(0, 0)").after("row(0, 0, 0) row(1, 0, 1)")
                .each(-2, "may(0, 0) ask(0, 0) leaves(0, 0) may(1, 0)");
    }

    private static void noMen() {
        Run.told("Promise 54: nobody alone", "hundred days 1 law 0 odds 0;field corn 1 rooks 3;").after("row(0, 0, 0)")
                .due("may(0, 0) ask(0, 0) leaves(0, 0)", 32, -1, 1).after(row(0, 0, 0, 1, 3)).due("may(0, 0)", 32)
                .after("write(0, 2, 2)").due("may(0, 0) ask(0, 0) leaves(0, 0)", 0, -1, 0);
    }

    private static void fiveMen() {
        // on DAY 1 there are 9 less frights in FIELD 0
        Run.told("Promise 54: five MEN and nobody", "hundred days 1 law 0 odds 0;field corn 1 rooks 9;field corn 1 rooks 0;hedge 0 1;"
                + "man frights 1 tires 0;man frights 2 tires 0;man frights 2 tires 0;man frights 2 tires 0;man frights 3 tires 0;")
                .after("row(0, 0, 0)").due("may(0, 0) ask(0, 0) leaves(0, 0)", 63, 1, 3)
                .after(row(0, 0, 0, 1, 7)).due("may(0, 0) ask(0, 0) leaves(0, 0)", 14, -1, 3)
                .after("write(0, 2, 6)").due("may(0, 0) ask(0, 0) leaves(0, 0)", 16, -1, 1)
                .after("write(0, 2, 9)").due("may(0, 0)", 32).after("write(0, 2, 8)").due("may(0, 0)", 1);
    }

    private static void whoStandsElsewhere() {
        // he stands in FIELD 1 now; if he is in FIELD 0, nobody is in FIELD 1, and its 4 rooks stay
        Run.told("Promise 54: nobody is where he was", "hundred days 1 law 0 odds 0;field corn 1 rooks 0;field corn 1 rooks 4;hedge 0 1;"
                + "man frights 0 tires 0;man frights 4 tires 0;")
                .after(row(0, 0, 1, 1, 4)).due("rooks(1, 1) may(0, 0)", 0, 2)
                .after("write(0, 2, 0)").due("may(0, 0)", 33);
        // he who stands in FIELD 0 now does not, and is in no other one
        Run.told("Promise 54: he who stands there now does not", "hundred days 1 law 0 odds 0;field corn 1 rooks 4;field corn 1 rooks 4;"
                + "hedge 0 1;man frights 4 tires 0;man frights 1 tires 0;")
                .due("rooks(0, 1) rooks(1, 1)", 1, 7)
                .after(row(0, 0, 0, 1, 3)).due("may(0, 0)", 2).after(row(0, 0, 1, 1, 5)).due("may(0, 0)", 2)
                .after(row(0, 0, 0, 1, 1)).due("may(0, 0)", 1).after(row(0, 0, 0, 1, 5)).due("may(0, 0)", 32);
    }

    private static void asked() {
        Run x = Run.told("Promise 55: leaves fewest at worst, the first of several", TEN);
        x.after("row(0, 0, 0)").due("ask(0, 0) leaves(0, 0)", 1, 2);
        x.after(row(0, 0, 0, 1, 4)).due("ask(0, 0) leaves(0, 0)", 2, 1);
        x.after(row(0, 0, 0, 2, 10)).due("may(0, 0) ask(0, 0) leaves(0, 0)", 36, 1, 1);
        x.after(row(0, 0, 1, 2, 10)).due("may(0, 0) ask(0, 0) leaves(0, 0)", 2, -1, 1);
        // rooks of FIELD 0 are alike by all; of FIELD 1 (on DAY 1) they are not
        Run.told("Promise 55: 100 times the FIELD", "hundred days 1 law 0 odds 0;field corn 1 rooks 0;field corn 1 rooks 4;"
                + "field corn 1 rooks 0;hedge 1 2;man frights 0 tires 0;man frights 3 tires 0;").after("row(0, 0, 0)")
                .due("may(0, 1) ask(0, 1) leaves(0, 1)", 35, 101, 2).due("may(0, 0) ask(0, 0) leaves(0, 0)", 35, 101, 2);
    }

    private static void askedOnTheLastDay() {
        // with 0 or 1 in FIELD 0 the rook flies to FIELD 1 and back, with 2 (then nobody is in FIELD 1) it stays there
        Run.told("Promise 55: the last DAY alone tells", "hundred days 2 law 0 odds 0;field corn 0 rooks 1;field corn 0 rooks 0;"
                + "hedge 0 1;man frights 1 tires 0;man frights 1 tires 1;man frights 1 tires 0;").after("puts(1, 2) row(0, 0, 3)")
                .after("write(0, 1, 1)").due("may(0, 0) ask(0, 0) leaves(0, 0)", 7, 2, 2);
        // with 0 or 1 in FIELD 3 the rook is there on each odd DAY; on the DAY 15 it does not fly from 1, whose FEAR is gone
        Run.told("Promise 55: FIELD 3, the last DAY of sixteen", "hundred days 16 law 0 odds 0;" + "field corn 0 rooks 0;".repeat(4)
                + "field corn 0 rooks 1;hedge 3 4;man frights 40 tires 0;man frights 15 tires 1;man frights 1 tires 0;")
                .after("puts(4, 2) row(0, 0, 6) write(0, 0, 3) write(0, 1, 1) write(0, 2, 1) write(0, 3, 3) write(0, 4, 2)")
                .due("may(0, 3) ask(0, 3) leaves(0, 3)", 3, 316, 1)
                .after("write(0, 4, 16)").due("may(0, 3) ask(0, 3) leaves(0, 3)", 1, -1, 1)
                .after("write(0, 4, 17)").due("may(0, 3)", -2);
    }

    private static void leftAtWorst() {
        Run.told("Promise 56: as now without", "hundred days 1 law 0 odds 0;field corn 1 rooks 0;"
                + "man frights 1 tires 0;man frights 2 tires 0;").after("row(0, 0, 0)")
                .due("may(0, 0) ask(0, 0) leaves(0, 0)", 35, -1, 3)
                .after("row(0, 0, 3) write(0, 2, 1)").due("may(0, 0) ask(0, 0) leaves(0, 0)", 0, -1, 0);
    }

    private static void actsStay() {
        Run x = Run.told("Promises 54 to 56: all else as now, and it stays", TEN).after("speaks(0, 1) puts(1, 2) row(0, 0, 0)");
        x.due("may(0, 0) ask(0, 0) leaves(0, 0) count(7) stands(0) stands(1) guards() rooks(0, 1)", 39, 1, 2, 2, 0, 2, 5, 4);
        // with 0, 1 or 2 in FIELD 0 all are in FIELD 1 on DAY 2; without the SPEECH 2 would be tired, and 4 would stay
        x.after(row(1, 0, 0, 2, 0)).due("may(1, 0)", 7).after(row(1, 0, 1, 2, 10)).due("may(1, 0) stands(0)", 7, 0);
        x.after("anew() puts(1, 2)").due("may(1, 0)", 3);
    }
}
