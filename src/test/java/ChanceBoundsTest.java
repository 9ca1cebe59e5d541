/** The edges of Terms IX and of promises 59, 60, 65 and 66: WIND, FRACTIONS, DRAWS, seeds. */
public final class ChanceBoundsTest {
    /** Draws from 0: 0 8 8 7 8 7 5 1 2 0 1 2 9 8 7 5, from 1: 8 8 3 5 1 7 0 9 2 6 9 7 4 0 5 3, from 2: 8 7 9 4 7 5 6 5 2 1 5 1 8 3 5 2. */
    private static final String SIXTEEN = " days 16 law 0 odds ";

    private ChanceBoundsTest() { }

    public static void main(String[] args) {
        days();
        daysAheadOfTheLast();
        atLeast();
        odds();
        windStopsFlight();
        windDoesNotRest();
        lowestTerms();
        beyondInt();
        meanOfAll();
        asNow();
        drawBounds();
        drawsBelowOdds();
        drawsWrapAround();
        harvestDrawn();
        luckBounds();
        luckCounts();
        Check.finish();
    }

    private static String head(int odds) {
        return "hundred" + SIXTEEN + odds + ";";
    }

    private static void days() {
        // one is eaten on each DAY without WIND
        Run x = Run.told("Promises 59, 60: DAYS 0 to 7", head(5) + "field corn 300 rooks 1;");
        x.due("chance(0, 0, 300, 0) chance(0, 0, 300, 1) chance(0, 7, 300, 0) chance(0, 7, 300, 1)", 1, 2, 1, 256);
        x.due("mean(0, 0) mean(0, 1) mean(7, 0) mean(7, 1)", 599, 2, 296, 1);
        x.each(-2, "chance(0, 8, 300, 0) chance(0, 8, 0, 1) chance(0, -1, 0, 0) chance(0, 15, 0, 0) chance(0, MAX, 0, 0) mean(8, 0)");
        x.each(-2, "mean(-1, 0) mean(15, 1) mean(MIN, 0) chance(0, 0, 0, 2) chance(0, 0, 0, -1) mean(0, 2) mean(0, -1)");
        x.each(-2, "chance(1, 0, 0, 0) chance(-1, 0, 0, 0) chance(MIN, 0, 0, 0) chance(32, 0, 0, 0)");
        x.due("chance(0, 0, 0, 0) chance(0, 0, 0, 1) chance(0, 0, -1, 0) chance(0, 0, 301, 0) chance(0, 0, MAX, 0)", 1, 1, -2, -2, -2);
    }

    private static void daysAheadOfTheLast() {
        Run.told("Promises 59, 60: ahead of the last", "hundred days 3 law 0 odds 5;field corn 9 rooks 1;")
                .due("chance(0, 2, 9, 0) chance(0, 2, 9, 1) mean(2, 0) mean(2, 1)", 1, 8, 15, 2)
                .each(-2, "chance(0, 3, 9, 0) chance(0, 3, 9, 1) mean(3, 0) mean(3, 1) chance(0, 4, 0, 0)");
        Run.told("Promises 59, 60: days 1", "hundred days 1 law 0 odds 5;field corn 9 rooks 1;")
                .due("chance(0, 0, 9, 1) chance(0, 1, 9, 1) mean(0, 1) mean(1, 1)", 2, -2, 2, -2);
        Run.told("Promises 59, 60: days 8", "hundred days 8 law 0 odds 5;field corn 9 rooks 1;")
                .due("chance(0, 7, 9, 1) chance(0, 8, 9, 1) mean(7, 0) mean(8, 0)", 256, -2, 5, -2);
        Run.told("Promises 59, 60: days 9", "hundred days 9 law 0 odds 5;field corn 9 rooks 1;")
                .due("chance(0, 7, 9, 1) chance(0, 8, 9, 1) mean(8, 0)", 256, -2, -2);
        new Run("Promises 59, 60: no HUNDRED").each(-2, "chance(0, 0, 0, 0) mean(0, 0) mean(0, 1)");
    }

    private static void atLeast() {
        // 9, 7 or 5 are left behind two DAYS: by 1, 2, 1 of four
        Run.told("Promise 59: n at least", "hundred days 2 law 0 odds 5;field corn 9 rooks 2;")
                .due("chance(0, 1, 5, 0) chance(0, 1, 5, 1) chance(0, 1, 6, 0) chance(0, 1, 6, 1)", 1, 1, 3, 4)
                .due("chance(0, 1, 7, 0) chance(0, 1, 7, 1) chance(0, 1, 8, 0) chance(0, 1, 8, 1)", 3, 4, 1, 4)
                .due("chance(0, 1, 9, 0) chance(0, 1, 9, 1) chance(0, 1, 10, 0) chance(0, 1, 10, 1)", 1, 4, 0, 1)
                .due("chance(0, 1, 300, 0) chance(0, 1, 300, 1)", 0, 1);
    }

    private static void odds() {
        Run.told("Promise 59: odds 0", "hundred days 2 law 0 odds 0;field corn 9 rooks 2;")
                .due("chance(0, 1, 5, 0) chance(0, 1, 5, 1) chance(0, 1, 6, 0) chance(0, 1, 6, 1) mean(1, 0) mean(1, 1)",
                        1, 1, 0, 1, 5, 1);
        Run.told("Promise 59: odds 10", "hundred days 2 law 0 odds 10;field corn 9 rooks 2;")
                .due("chance(0, 1, 9, 0) chance(0, 1, 9, 1) chance(0, 1, 10, 0) mean(1, 0) mean(1, 1)", 1, 1, 0, 9, 1);
        Run.told("Promise 59: odds 1", "hundred days 1 law 0 odds 1;field corn 9 rooks 2;")
                .due("chance(0, 0, 9, 0) chance(0, 0, 9, 1) mean(0, 0) mean(0, 1)", 1, 10, 36, 5);
        Run.told("Promise 59: odds 9", "hundred days 1 law 0 odds 9;field corn 9 rooks 2;")
                .due("chance(0, 0, 9, 0) chance(0, 0, 9, 1) mean(0, 0) mean(0, 1)", 9, 10, 44, 5);
    }

    private static void windStopsFlight() {
        // without WIND on DAY 0 both fly to FIELD 1; with it they are there on DAY 1 without FEAR, and eat without WIND then
        Run.told("Promise 59: with WIND no rooks eat, nor fly", "hundred days 2 law 0 odds 5;field corn 9 rooks 2;"
                + "field corn 0 rooks 0;hedge 0 1;man frights 2 tires 2;")
                .due("chance(0, 1, 9, 0) chance(0, 1, 9, 1) chance(0, 1, 8, 0) chance(0, 1, 7, 0) mean(1, 0) mean(1, 1)",
                        3, 4, 3, 1, 17, 2);
    }

    private static void windDoesNotRest() {
        // FEAR goes down with WIND, too: on DAY 1 there is none
        Run.told("Promise 59: a DAY of WIND is a DAY", "hundred days 2 law 0 odds 5;field corn 9 rooks 2;man frights 2 tires 2;")
                .due("chance(0, 0, 9, 0) chance(0, 1, 9, 0) chance(0, 1, 9, 1) drawn(0, 1)", 1, 1, 2, 7);
    }

    private static void lowestTerms() {
        // WIND on all DAYS: 4 in 10 to the eighth, 256 of 390625
        Run.told("Promise 59: FRACTIONS in lowest terms", head(4) + "field corn 300 rooks 1;")
                .due("chance(0, 7, 300, 0) chance(0, 7, 300, 1) chance(0, 0, 300, 0) chance(0, 0, 300, 1)", 256, 390625, 2, 5)
                .due("mean(0, 0) mean(0, 1) mean(7, 0) mean(7, 1)", 1497, 5, 1476, 5);
        Run.told("Promise 59: nothing is in common", head(3) + "field corn 300 rooks 1;")
                .due("chance(0, 7, 300, 0) chance(0, 7, 300, 1)", 6561, 100000000);
        // all but no WIND on all DAYS: 1 less 7 in 10 to the eighth
        Run.told("Promise 59: nearly 1 / 1", head(3) + "field corn 300 rooks 1;")
                .due("chance(0, 7, 293, 0) chance(0, 7, 293, 1) chance(0, 7, 292, 0) chance(0, 7, 292, 1)",
                        94235199, 100000000, 1, 1);
    }

    private static void beyondInt() {
        // 1,200 and, with WIND on all DAYS, 1
        Run.told("Promise 60: above beyond an int", head(3) + "field corn 300 rooks 0;".repeat(4) + "field corn 1 rooks 1;")
                .due("mean(7, 0) mean(7, 1) chance(4, 7, 1, 0) chance(4, 7, 1, 1)", 120000006561L, 100000000, 6561, 100000000);
        Run.told("Promise 60: as much corn as there can be", head(7) + "field corn 300 rooks 0;".repeat(5))
                .due("mean(7, 0) mean(7, 1) mean(0, 0)", 1500, 1, 1500);
    }

    private static void meanOfAll() {
        Run.told("Promise 60: no FIELDS: 0 / 1", head(3)).due("mean(0, 0) mean(0, 1) mean(7, 0) mean(7, 1)", 0, 1, 0, 1)
                .due("chance(0, 0, 0, 0)", -2);
        Run.told("Promise 60: no corn: 0 / 1", head(3) + "field corn 0 rooks 9;")
                .due("mean(7, 0) mean(7, 1) chance(0, 7, 0, 0) chance(0, 7, 1, 0) chance(0, 7, 1, 1)", 0, 1, 1, 0, 1);
        Run.told("Promise 60: all is eaten for sure: 0 / 1", head(0) + "field corn 8 rooks 1;").due("mean(7, 0) mean(7, 1)", 0, 1);
        Run.told("Promise 60: of all FIELDS", "hundred days 1 law 0 odds 5;field corn 9 rooks 2;field corn 9 rooks 1;")
                .due("mean(0, 0) mean(0, 1)", 33, 2);
    }

    private static void asNow() {
        Run.told("Promises 59, 60, 65: men and speeches as now", "hundred days 2 law 0 odds 5;field corn 9 rooks 2;"
                + "man frights 2 tires 2;man frights 0 tires 0;")
                .due("chance(0, 1, 9, 0) chance(0, 1, 9, 1) drawn(0, 1)", 1, 2, 7)
                .after("speaks(0, 1)").due("chance(0, 1, 9, 0) chance(0, 1, 9, 1) drawn(0, 1)", 1, 1, 9)
                .after("puts(0, 1)").due("chance(0, 1, 9, 0) chance(0, 1, 9, 1) mean(1, 0) drawn(0, 1)", 1, 4, 7, 7)
                .due("count(7) all(2) stands(0)", 2, 5, 1);
    }

    private static void drawBounds() {
        Run x = Run.told("Promise 65: seeds 0 to 2,000,000,000", head(5) + "field corn 300 rooks 1;");
        x.due("drawn(0, 0) drawn(0, 1) drawn(2000000000, 0) drawn(2000000000, 1)", 3969, 290, 55847, 293);
        x.each(-2, "drawn(-1, 0) drawn(-1, 1) drawn(2000000001, 0) drawn(2000000001, 1) drawn(MAX, 0) drawn(MIN, 0)");
        x.each(-2, "drawn(0, 2) drawn(0, -1) drawn(0, MAX) drawn(0, MIN)");
        new Run("Promise 65: no HUNDRED").each(-2, "drawn(0, 0) drawn(0, 1)");
        Run.told("Promise 65: no FIELDS", head(5)).due("drawn(0, 0) drawn(0, 1)", 3969, 0);
    }

    private static void drawsBelowOdds() {
        // the draws from 0 that are below each
        Run.told("Promise 65: odds 0", head(0)).due("drawn(0, 0) drawn(7, 0)", 0, 0);
        Run.told("Promise 65: below odds 1", head(1)).due("drawn(0, 0)", 513);
        Run.told("Promise 65: below odds 5", head(5)).due("drawn(0, 0)", 3969);
        Run.told("Promise 65: below odds 6", head(6)).due("drawn(0, 0)", 36801);
        Run.told("Promise 65: below odds 9", head(9)).due("drawn(0, 0)", 61439);
        Run.told("Promise 65: odds 10", head(10)).due("drawn(0, 0) drawn(2000000000, 0)", 65535, 65535);
        Run.told("Promise 65: DAYS ahead of the last", "hundred days 7 law 0 odds 5;").due("drawn(0, 0)", 1);
        Run.told("Promise 65: one DAY", "hundred days 1 law 0 odds 1;").due("drawn(0, 0) drawn(1, 0)", 1, 0);
    }

    private static void drawsWrapAround() {
        // 1103515245 times 1,999,999,999 is far beyond 32 bits: 3 3 6 9 1 1 9 0 5 8 9 4 0 5 3 7
        Run.told("Promise 65: modulo 2,147,483,648", head(4)).due("drawn(1999999999, 0)", 1 + 2 + 16 + 32 + 128 + 4096 + 16384);
        Run.told("Promise 65: from 1", head(3)).due("drawn(1, 0)", 16 + 64 + 256 + 8192);
        // 1103515245 times 1,073,741,824 leaves 1,073,741,824: with 12,345 divided by 65,536 it is 16,384, a 4
        Run.told("Promise 65: the highest bit", "hundred days 1 law 0 odds 5;").due("drawn(1073741824, 0)", 1);
        Run.told("Promise 65: the highest bit, not below", "hundred days 1 law 0 odds 4;").due("drawn(1073741824, 0)", 0);
    }

    private static void harvestDrawn() {
        // WIND on the DAYS 0 and 7 of eight: 6 times 2 are eaten
        Run.told("Promise 65: corn left in all FIELDS on the last DAY", "hundred days 8 law 0 odds 5;field corn 20 rooks 2;"
                + "field corn 11 rooks 2;field corn 5 rooks 0;").due("drawn(0, 0) drawn(0, 1) all(8)", 129, 13, 9);
    }

    private static void luckBounds() {
        Run x = Run.told("Promise 66: seeds, n 1 to 20, FIELDS", head(10) + "field corn 1 rooks 1;field corn 0 rooks 0;");
        x.due("luck(0, 1, 0) luck(0, 20, 0) luck(0, 20, 1) luck(2000000000, 1, 0) luck(2000000000, 20, 0)", 1, 20, 0, 1, 20);
        x.each(-2, "luck(0, 0, 0) luck(0, 21, 0) luck(0, -1, 0) luck(0, MAX, 0) luck(0, MIN, 0) luck(-1, 1, 0) luck(-1, 20, 0)");
        x.each(-2, "luck(2000000001, 1, 0) luck(MAX, 1, 0) luck(MIN, 1, 0) luck(0, 1, 2) luck(0, 1, -1) luck(0, 1, MAX)");
        new Run("Promise 66: no HUNDRED").due("luck(0, 1, 0)", -2);
        Run.told("Promise 66: no FIELDS", head(5)).due("luck(0, 1, 0)", -2);
    }

    private static void luckCounts() {
        // 10, 9 and 10 are eaten from 0, 1 and 2
        Run.told("Promise 66: some corn is left", head(5) + "field corn 10 rooks 1;field corn 11 rooks 1;field corn 9 rooks 1;")
                .due("luck(0, 1, 0) luck(1, 1, 0) luck(2, 1, 0) luck(0, 2, 0) luck(0, 3, 0) luck(1, 2, 0)", 0, 1, 0, 1, 1, 1)
                .due("luck(0, 3, 1) luck(0, 1, 1) luck(0, 3, 2) luck(1, 1, 2)", 3, 1, 0, 0);
        // 8, 7 and 7 are eaten from 1,999,999,999 and the next
        Run.told("Promise 66: the seed and 1, ..", head(5) + "field corn 8 rooks 1;")
                .due("luck(1999999999, 1, 0) luck(1999999999, 2, 0) luck(2000000000, 1, 0) luck(2000000000, 2, 0)", 0, 1, 1, 2);
    }
}
