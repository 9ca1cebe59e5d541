/** The edges of Terms IV and V and of promises 6 to 10, 23 to 33 and 37 to 45: what is told, FEAR, rooks, corn, DAYS. */
public final class DayBoundsTest {
    private static final String FULL = "hundred days 16 law 3 odds 10;" + "field corn 300 rooks 40;".repeat(5)
            + "hedge 0 1;hedge 1 2;hedge 2 3;hedge 3 4;hedge 4 0;hedge 0 2;hedge 1 3;hedge 2 4;"
            + "man frights 40 tires 9;".repeat(5) + "voter hats 9 4 3 2 1 0;".repeat(7);

    private DayBoundsTest() { }

    public static void main(String[] args) {
        told();
        fearEbbs();
        fearBySpeech();
        fearBounds();
        rooksAndFear();
        cornRunsOut();
        flights();
        stayWithoutHedge();
        leastFear();
        twoHundredRooks();
        mostOnTheLastDay();
        noWind();
        oneDay();
        sixteenDays();
        noFields();
        noRooksNoCorn();
        firstOfSeveral();
        shoulderAndBare();
        keptWorstPeace();
        sums();
        tired();
        guards();
        Check.finish();
    }

    private static String head(int days) {
        return "hundred days " + days + " law 0 odds 0;";
    }

    private static void told() {
        Run.told("Promises 6 to 10: the last of each, and one beyond", FULL)
                .due("field(4, 0) field(4, 1) field(5, 0) field(-1, 0) field(4, 2) field(4, -1)", 300, 40, -2, -2, -2, -2)
                .due("hedges(4) hedges(0) hedges(5) hedges(-1) hedges(32)", 13, 22, -2, -2, -2)
                .due("man(4, 0) man(4, 1) man(5, 0) man(-1, 0) man(4, 2) man(4, -1)", 40, 9, -2, -2, -2, -2)
                .due("hats(6) hats(7) hats(-1) hats(MIN)", 9, -2, -2, -2)
                .due("wants(6, 0) wants(6, 4) wants(6, 5) wants(6, -1) wants(6, MAX) wants(6, MIN)", 4, 0, -1, -1, -1, -1)
                .due("wants(7, 0) wants(-1, 0) wants(7, 9) wants(-1, -1)", -2, -2, -2, -2);
        Run.told("Promise 10: NONE: there is no such place", head(1) + "man frights 1 tires 1;voter hats 1;voter hats 1 0;")
                .due("wants(0, 0) wants(0, -1) wants(1, 0) wants(1, 1) wants(2, 0)", -1, -1, 0, -1, -2);
        Run.told("Promise 6: as told, whatever is eaten or done", head(3) + "field corn 9 rooks 4;field corn 0 rooks 0;hedge 0 1;"
                + "man frights 2 tires 0;").after("puts(1, 0) speaks(0, 1) all(3)")
                .due("field(0, 0) field(0, 1) field(1, 0) field(1, 1) hedges(0) hedges(1)", 9, 4, 0, 0, 2, 1);
        Run.told("Promise 7: no HEDGE", head(1) + "field corn 1 rooks 1;").due("hedges(0) hedges(1)", 0, -2);
        Run.told("Promises 6 to 9: there are none", head(1)).each(-2, "field(0, 0) hedges(0) man(0, 0) hats(0) wants(0, 0)");
    }

    private static void fearEbbs() {
        Run.told("Promise 23, FEAR: 0 at least", head(4) + "field corn 9 rooks 0;man frights 5 tires 3;")
                .due("fear(0, 0) fear(0, 1) fear(0, 2) fear(0, 3) fear(0, 4)", 5, 2, 0, 0, 0);
        Run.told("Promise 23, FEAR: just 0", head(3) + "field corn 9 rooks 0;man frights 6 tires 3;")
                .due("fear(0, 0) fear(0, 1) fear(0, 2) fear(0, 3)", 6, 3, 0, 0);
        Run.told("Promise 23, FEAR: who does not tire", head(3) + "field corn 9 rooks 0;man frights 40 tires 0;")
                .due("fear(0, 0) fear(0, 3)", 40, 40);
        Run.told("Promise 23, FEAR: without a man 0", head(3) + "field corn 9 rooks 0;field corn 9 rooks 0;man frights 7 tires 1;")
                .due("fear(0, 0) fear(1, 0) fear(1, 3)", 7, 0, 0).after("puts(0, -1)").due("fear(0, 0)", 0);
    }

    private static void fearBySpeech() {
        Run x = Run.told("Promise 23, FEAR: since the last SPEECH there, or since DAY 0",
                head(5) + "field corn 9 rooks 0;field corn 9 rooks 0;man frights 9 tires 2;man frights 9 tires 4;");
        x.due("speaks(0, 0) fear(0, 0) fear(0, 1) fear(0, 5)", 9, 9, 7, 0);
        x.due("speaks(0, 2) fear(0, 1) fear(0, 2) fear(0, 3) fear(0, 4) fear(0, 5)", 9, 7, 9, 7, 5, 3);
        x.due("speaks(0, 4) fear(0, 3) fear(0, 4) fear(0, 5)", 9, 7, 9, 7);
        x.due("fear(1, 0) fear(1, 1) fear(1, 2) fear(1, 3)", 9, 5, 1, 0);
        // a SPEECH is the FIELD's, whoever stands there
        x.after("puts(0, 1)").due("fear(0, 2) fear(0, 3) fear(0, 4) fear(0, 5) fear(1, 2)", 9, 5, 9, 5, 0);
        x.due("speaks(0, 2) fear(0, 3)", 9, 5);
    }

    private static void fearBounds() {
        Run x = Run.told("Promises 23 to 27: DAYS 0 to the last, FIELDS", head(2) + "field corn 9 rooks 2;field corn 8 rooks 0;");
        x.due("fear(0, 0) fear(0, 2) rooks(0, 2) corn(0, 2) corn(1, 2) eaten(0, 1) flies(0, 1)", 0, 0, 2, 5, 8, 2, -1);
        x.each(-2, "fear(0, 3) rooks(0, 3) corn(0, 3) fear(0, -1) rooks(0, -1) corn(0, -1) eaten(0, 2) flies(0, 2)");
        x.each(-2, "eaten(0, 3) flies(0, 3) eaten(0, -1) flies(0, -1) fear(2, 0) rooks(2, 0) corn(2, 0) eaten(2, 0) flies(2, 0)");
        x.each(-2, "fear(-1, 0) rooks(-1, 0) corn(-1, 0) eaten(-1, 0) flies(-1, 0) rooks(0, MAX) corn(MIN, 0) corn(0, 32)");
        x.due("all(0) all(2) all(3) all(-1) black(2) black(3) black(-1) richest(2) richest(3) richest(-1)",
                17, 13, -2, -2, 0, -2, -2, 1, -2, -2);
        x.due("quiet(0) quiet(1) quiet(2) quiet(-1) flown(1) flown(2) flown(-1)", 2, 2, -2, -2, 0, -2, -2);
        x.each(-2, "shoulder(2) shoulder(-1) bare(2) bare(-1) eats(2) eats(-1) bold(2) bold(-1) most(2) most(-1)");
    }

    private static void rooksAndFear() {
        String fields = "field corn 30 rooks 5;field corn 30 rooks 0;hedge 0 1;";
        Run.told("Promise 26: rooks above FEAR, as many as FEAR", head(1) + fields + "man frights 5 tires 0;")
                .due("eaten(0, 0) flown(0) rooks(0, 1) rooks(1, 1) flies(0, 0)", 0, 5, 0, 5, 1);
        Run.told("Promise 26: one above FEAR", head(1) + fields + "man frights 4 tires 0;")
                .due("eaten(0, 0) flown(0) rooks(0, 1) rooks(1, 1) corn(0, 1)", 1, 4, 1, 4, 29);
        Run.told("Promise 26: fewer than FEAR: all fly", head(1) + fields + "man frights 6 tires 0;")
                .due("eaten(0, 0) flown(0) rooks(0, 1) rooks(1, 1)", 0, 5, 0, 5);
        Run.told("Promise 27: FEAR 0: none fly", head(1) + fields + "man frights 0 tires 0;")
                .due("eaten(0, 0) flown(0) rooks(0, 1) rooks(1, 1) flies(0, 0)", 5, 0, 5, 0, -1);
        Run.told("Promise 27: no rooks: none fly", head(1) + fields + "man frights 0 tires 0;man frights 9 tires 0;")
                .due("fear(1, 0) rooks(1, 0) flies(1, 0) eaten(1, 0)", 9, 0, -1, 0);
    }

    private static void cornRunsOut() {
        Run.told("Promise 26: as far as there is some", head(4) + "field corn 7 rooks 3;")
                .due("eaten(0, 0) eaten(0, 1) eaten(0, 2) eaten(0, 3)", 3, 3, 1, 0)
                .due("corn(0, 2) corn(0, 3) corn(0, 4) eats(0) bare(0) bold(0) rooks(0, 4)", 1, 0, 0, 7, 3, 3, 3);
        Run.told("Promise 26: just as much", head(2) + "field corn 3 rooks 3;").due("eaten(0, 0) eaten(0, 1) bare(0)", 3, 0, 1);
    }

    private static void flights() {
        // 4 fly from 0 to 1 and 2 from 1 to 0 at once
        Run.told("Promise 24: all FIELDS at once", head(2) + "field corn 50 rooks 4;field corn 50 rooks 5;hedge 0 1;"
                + "man frights 4 tires 0;man frights 2 tires 0;")
                .due("flies(0, 0) flies(1, 0) eaten(0, 0) eaten(1, 0) rooks(0, 1) rooks(1, 1) flown(0)", 1, 0, 0, 3, 2, 7, 6)
                .due("rooks(0, 2) rooks(1, 2) eaten(1, 1) flown(1) most(0) most(1)", 2, 7, 5, 4, 4, 7);
    }

    private static void stayWithoutHedge() {
        Run.told("Promises 24, 26, 27: without a HEDGE they stay, and eat nothing", head(2)
                + "field corn 9 rooks 5;field corn 9 rooks 1;field corn 9 rooks 0;hedge 1 2;man frights 3 tires 0;")
                .due("flies(0, 0) eaten(0, 0) rooks(0, 1) rooks(0, 2) corn(0, 2) flown(0) flown(1)", -1, 2, 5, 5, 5, 0, 0);
    }

    private static void leastFear() {
        // FIELD 0 is joined to 1, 2, 3 of FEAR 2, 1, 1 on DAY 0, 1, 1, 0 on DAY 1, 0, 1, 0 on DAY 2
        Run.told("Promise 27: the least FEAR on the DAY, the first of several", head(3)
                + "field corn 9 rooks 9;field corn 9 rooks 0;field corn 9 rooks 0;field corn 9 rooks 0;"
                + "hedge 3 0;hedge 0 2;hedge 1 0;"
                + "man frights 3 tires 0;man frights 2 tires 1;man frights 1 tires 0;man frights 1 tires 1;")
                .due("flies(0, 0) flies(0, 1) flies(0, 2)", 2, 3, 1);
        // FIELDS 1, 2 have FEAR 9, 5 on DAY 0, 6, 5 on DAY 1, 3, 5 on DAY 2, 0, 5 on DAY 3
        Run.told("Promise 27: the least FEAR of another DAY", head(4) + "field corn 9 rooks 40;field corn 9 rooks 0;"
                + "field corn 9 rooks 0;hedge 0 1;hedge 0 2;man frights 1 tires 0;man frights 9 tires 3;man frights 5 tires 0;")
                .due("flies(0, 0) flies(0, 1) flies(0, 2) flies(0, 3)", 2, 2, 1, 1);
        // 0 is of less FEAR than 1, but not joined to 2
        Run.told("Promise 27: joined by a HEDGE", head(1) + "field corn 9 rooks 0;field corn 9 rooks 0;field corn 9 rooks 3;"
                + "hedge 1 2;man frights 0 tires 0;man frights 9 tires 0;man frights 3 tires 0;").due("flies(2, 0)", 1);
        Run.told("Promise 27: to one of more FEAR than here", head(1) + "field corn 9 rooks 3;field corn 9 rooks 0;hedge 0 1;"
                + "man frights 1 tires 0;man frights 40 tires 0;").due("flies(0, 0) rooks(1, 1)", 1, 1);
    }

    private static void twoHundredRooks() {
        Run.told("Promises 24, 43: as many rooks as there can be", head(2) + "field corn 300 rooks 40;".repeat(5)
                + "hedge 0 1;hedge 0 2;hedge 0 3;hedge 0 4;man frights 0 tires 0;" + "man frights 40 tires 0;".repeat(4))
                .due("rooks(0, 1) rooks(1, 1) rooks(4, 1) most(0) flown(0) flown(1)", 200, 0, 0, 200, 160, 0)
                .due("eaten(0, 0) eaten(0, 1) corn(0, 2) corn(4, 2) all(2) all(0) black(1) eats(0)",
                        40, 200, 60, 300, 1260, 1500, 0, 240);
    }

    private static void mostOnTheLastDay() {
        Run.told("Promise 43: on any DAY, the last one too", head(1) + "field corn 0 rooks 1;field corn 0 rooks 4;hedge 0 1;"
                + "man frights 0 tires 0;man frights 4 tires 0;").due("most(0) most(1) rooks(0, 1) rooks(1, 1)", 5, 4, 5, 0);
    }

    private static void noWind() {
        Run.told("Promise 25: WIND is by chance alone, odds 10", "hundred days 1 law 0 odds 10;field corn 9 rooks 2;")
                .due("corn(0, 1) eaten(0, 0) all(1)", 7, 2, 7);
    }

    private static void oneDay() {
        Run.told("Promises 23 to 45: days 1", head(1) + "field corn 9 rooks 2;")
                .due("corn(0, 0) corn(0, 1) corn(0, 2) eaten(0, 0) eaten(0, 1) worst() peace() bold(0)", 9, 7, -2, 2, -2, 0, 0, 1)
                .due("quiet(0) quiet(1) flown(0) flown(1) flies(0, 1)", 0, -2, 0, -2, -2);
    }

    private static void sixteenDays() {
        Run.told("Promises 23 to 45: days 16", head(16) + "field corn 300 rooks 1;")
                .due("corn(0, 16) corn(0, 17) rooks(0, 16) rooks(0, 17) fear(0, 16) fear(0, 17)", 284, -2, 1, -2, 0, -2)
                .due("eaten(0, 15) eaten(0, 16) flies(0, 15) flies(0, 16) all(16) all(17)", 1, -2, -1, -2, 284, -2)
                .due("black(16) black(17) richest(16) richest(17) quiet(15) quiet(16) flown(15) flown(16)",
                        0, -2, 0, -2, 0, -2, 0, -2)
                .due("eats(0) bold(0) worst() peace() kept()", 16, 16, 0, 0, 0);
        Run.told("Promises 30, 31: on the DAY 16", head(16) + "field corn 16 rooks 1;field corn 9 rooks 0;"
                + "man frights 0 tires 0;man frights 16 tires 1;").due("bare(0) shoulder(1) fear(1, 15)", 16, 16, 1);
        Run.told("Promise 41: sixteen DAYS of peace", head(16) + "field corn 16 rooks 0;").due("peace() kept()", 16, 1);
        Run.told("Promise 33: the DAY 15", head(16) + "field corn 9 rooks 5;man frights 30 tires 2;")
                .due("eaten(0, 12) eaten(0, 13) eaten(0, 14) eaten(0, 15) worst() peace()", 0, 1, 3, 5, 15, 13);
        Run.told("Promise 23: FEAR on the DAY 16 behind a SPEECH on the DAY 15", head(16)
                + "field corn 9 rooks 5;man frights 40 tires 9;").due("speaks(0, 15) fear(0, 14) fear(0, 15) fear(0, 16)", 40, 0, 40, 31);
    }

    private static void noFields() {
        Run.told("Promises 28 to 45: no FIELDS", head(3) + "man frights 1 tires 1;voter hats 1 0;")
                .due("all(0) all(3) all(4) black(0) black(3) black(4) richest(0) richest(4)", 0, 0, -2, -1, -1, -2, -1, -2)
                .due("kept() worst() guards() peace() quiet(0) quiet(3) flown(2) flown(3)", 0, 0, 0, 3, 0, -2, 0, -2)
                .each(-2, "fear(0, 0) rooks(0, 0) corn(0, 0) eaten(0, 0) flies(0, 0) shoulder(0) bare(0) eats(0) bold(0) most(0)");
    }

    private static void noRooksNoCorn() {
        Run.told("Promises 26 to 45: no rooks", head(2) + "field corn 5 rooks 0;field corn 5 rooks 0;")
                .due("black(0) kept() worst() peace() quiet(1) most(0) eats(0) bold(0) bare(0) eaten(0, 0)",
                        0, 3, 0, 2, 3, 0, 0, 0, -1, 0);
        Run.told("Promises 26 to 45: no corn", head(2) + "field corn 0 rooks 40;field corn 0 rooks 1;")
                .due("richest(0) kept() worst() peace() quiet(0) eats(0) bold(0) bare(0) bare(1) eaten(0, 0) all(0)",
                        0, 3, 0, 2, 3, 0, 0, 0, 0, 0, 0);
    }

    private static void firstOfSeveral() {
        String fields = "field corn 5 rooks 3;field corn 9 rooks 4;field corn 9 rooks 4;field corn 8 rooks 4;";
        Run.told("Promises 29, 45: the first of several", head(1) + fields).due("black(0) richest(0)", 1, 1);
        Run.told("Promise 29: most by one", head(1) + fields + "field corn 10 rooks 5;").due("black(0) richest(0)", 4, 4);
        // corn 9 8 7, 8 8 8 on the DAYS; rooks 1 and 0
        Run.told("Promises 29, 45: on a DAY", head(2) + "field corn 9 rooks 1;field corn 8 rooks 0;")
                .due("richest(0) richest(1) richest(2) black(2)", 0, 0, 1, 0);
    }

    private static void shoulderAndBare() {
        Run.told("Promise 30: the first DAY, the last one too", head(3) + "field corn 9 rooks 0;".repeat(4)
                + "man frights 3 tires 1;man frights 4 tires 1;man frights 3 tires 2;")
                .due("shoulder(0) shoulder(1) shoulder(2) shoulder(3)", 3, -1, 2, 0)
                .after("speaks(0, 2)").due("shoulder(0)", -1).after("speaks(2, 2)").due("fear(2, 2) shoulder(2)", 3, -1);
        Run.told("Promise 31: the first DAY, the last one too", head(3) + "field corn 0 rooks 0;field corn 6 rooks 2;"
                + "field corn 7 rooks 2;field corn 4 rooks 2;").due("bare(0) bare(1) bare(2) bare(3)", 0, 3, -1, 2);
    }

    private static void keptWorstPeace() {
        // FEAR is 4 2 0 0: 0, 0, 2, 2 are eaten
        Run x = Run.told("Promises 32, 33, 41: DAYS ahead of the last", head(4) + "field corn 30 rooks 2;field corn 9 rooks 0;"
                + "man frights 4 tires 2;");
        x.due("eaten(0, 1) eaten(0, 2) eaten(0, 3) kept() worst() peace() bold(0) quiet(1) quiet(2)", 0, 2, 2, 2, 2, 2, 2, 3, 2);
        x.after("speaks(0, 3)").due("eaten(0, 2) eaten(0, 3) peace() worst() bold(0)", 2, 0, 2, 2, 1);
        x.after("speaks(0, 1)").due("eaten(0, 2) peace() worst() kept() bold(0)", 0, 4, 0, 3, 0);
        // corn 1 is eaten on DAY 0, then nothing
        Run.told("Promise 41: one behind the other, the last DAYS", head(5) + "field corn 1 rooks 2;").due("peace() worst()", 4, 0);
        // 1 is eaten on DAY 2 alone
        Run.told("Promise 41: the longer of two", head(6) + "field corn 1 rooks 1;man frights 2 tires 1;").due("peace()", 3);
        // FEAR 5 1: 4 on DAY 1, the 2 that are left on DAY 2
        Run.told("Promise 33: the DAY 1", head(4) + "field corn 6 rooks 5;man frights 5 tires 4;")
                .due("eaten(0, 0) eaten(0, 1) eaten(0, 2) eaten(0, 3) worst()", 0, 4, 2, 0, 1);
        // FIELD 0 gives 2 on DAY 0, FIELD 1 3 on DAY 1 and 4 on DAY 2
        Run.told("Promise 33: in all FIELDS together", head(3) + "field corn 2 rooks 2;field corn 9 rooks 4;"
                + "man frights 0 tires 0;man frights 5 tires 4;")
                .due("eaten(1, 0) eaten(1, 1) eaten(1, 2) worst()", 0, 3, 4, 2);
    }

    private static void sums() {
        // eaten 3 2 0 (then the corn is gone), 0 1 2 (FEAR 2 1 0), 0 0 0 on the DAYS
        String text = head(3) + "field corn 5 rooks 3;field corn 9 rooks 2;field corn 4 rooks 0;man frights 0 tires 0;"
                + "man frights 2 tires 1;";
        Run.told("Promise 28: on DAYS 0 to the last", text).due("all(0) all(1) all(2) all(3) all(4) all(-1)", 18, 15, 12, 10, -2, -2);
        Run.told("Promise 39: in all", text).due("eats(0) eats(1) eats(2) eats(3) eats(-1)", 5, 3, 0, -2, -2);
        Run.told("Promise 40: nothing is eaten, as bits", text).due("quiet(0) quiet(1) quiet(2) quiet(3) quiet(-1)", 6, 4, 5, -2, -2);
        Run.told("Promise 42: something is eaten", text).due("bold(0) bold(1) bold(2) bold(3) bold(-1)", 2, 2, 0, -2, -2);
        // 2 of 3 fly from FIELD 0, all 4 from FIELD 1; 5 in FIELD 2 have no HEDGE
        Run.told("Promise 44: who stay do not fly", head(2) + "field corn 9 rooks 3;field corn 9 rooks 4;field corn 9 rooks 5;"
                + "hedge 0 1;man frights 2 tires 0;man frights 9 tires 0;man frights 5 tires 0;")
                .due("flown(0) flown(1) flown(2) flown(-1) rooks(0, 1) rooks(1, 1) rooks(2, 1)", 6, 4, -2, -2, 5, 2, 5);
    }

    private static void tired() {
        Run.told("Promise 37: after how many DAYS, beyond the last, too", head(1) + "man frights 6 tires 3;man frights 7 tires 3;"
                + "man frights 40 tires 1;man frights 1 tires 9;man frights 9 tires 9;")
                .due("tired(0) tired(1) tired(2) tired(3) tired(4) tired(5) tired(-1)", 2, 3, 40, 1, 1, -2, -2);
        Run.told("Promise 37: never, at once", head(1) + "man frights 1 tires 0;man frights 40 tires 0;man frights 0 tires 0;"
                + "man frights 0 tires 9;").due("tired(0) tired(1) tired(2) tired(3)", -1, -1, 0, 0)
                .after("rate(0, 0)").due("tired(0)", 0);
    }

    private static void guards() {
        // by LAW 3 the first two of each ROW are alike: 3, 2, 1, 0, 4 are elected
        Run.told("Promise 38: MEN as bits", FULL).due("guards()", 31).due("puts(0, -1) guards()", 3, 23)
                .due("puts(3, -1) guards()", 0, 22).due("puts(0, 4) guards() stands(4)", -1, 22, -1)
                .due("puts(4, 3) guards()", -1, 30);
        Run.told("Promise 38: nobody", head(1) + "field corn 1 rooks 1;").due("guards()", 0);
    }
}
