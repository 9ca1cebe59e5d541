/** The edges of Terms VI and VIII and of promises 46 to 53, 57 and 58: rows of MEN, LAWS, one SPEECH more, one HEDGE more, games. */
public final class PlanBoundsTest {
    private PlanBoundsTest() { }

    public static void main(String[] args) {
        noFieldsNoMen();
        everyRow();
        nobodyTwice();
        leastRow();
        fewest();
        speechesCount();
        putBounds();
        lawBounds();
        lawLeast();
        speechBounds();
        speechFirst();
        gapBounds();
        gapFirst();
        gapBesidesOthers();
        gapAtEightHedges();
        restBounds();
        restPairs();
        byTheOthersChoice();
        getsBelowZero();
        Check.finish();
    }

    private static String head(int days) {
        return "hundred days " + days + " law 0 odds 0;";
    }

    private static void noFieldsNoMen() {
        Run.told("Promises 46 to 53: no FIELDS: one row of none", head(2) + "man frights 1 tires 1;")
                .due("best() ways() fewest() put(0) by(0) by(3) law() speech() gap()", 0, 1, 0, -2, 0, 0, 0, -1, -1);
        Run.told("Promises 46 to 53: no MEN: nobody in each", head(2) + "field corn 9 rooks 1;field corn 5 rooks 0;")
                .due("best() ways() fewest() put(0) put(1) put(2) by(0) by(3) law() speech() gap()",
                        12, 1, 0, -1, -1, -2, 12, 12, 0, -1, -1);
        Run.told("Promises 46 to 49: no corn, all is eaten", head(2) + "field corn 2 rooks 9;man frights 1 tires 0;")
                .due("best() ways() fewest() put(0)", 0, 2, 0, -1);
    }

    private static void everyRow() {
        // of five FIELDS and five MEN: the sum of (5 over k) squared times k! for k from 0 to 5
        Run.told("Promise 48: all rows of five", head(1) + "field corn 300 rooks 0;".repeat(5) + "man frights 1 tires 1;".repeat(5))
                .due("best() ways() fewest() put(0) put(4) put(5) put(-1)", 1500, 1546, 0, -1, -1, -2, -2);
        Run.told("Promise 48: one man, two FIELDS", head(1) + "field corn 1 rooks 0;".repeat(2) + "man frights 1 tires 1;")
                .due("ways()", 3);
        Run.told("Promise 48: two MEN, one FIELD", head(1) + "field corn 1 rooks 0;" + "man frights 1 tires 1;".repeat(2))
                .due("ways()", 3);
    }

    private static void nobodyTwice() {
        // man 1 keeps 5 in either FIELD, man 0 keeps 1: he can't stand in both
        Run.told("Promises 46 to 49: nobody twice", head(1) + "field corn 9 rooks 5;field corn 9 rooks 5;"
                + "man frights 1 tires 0;man frights 5 tires 0;")
                .due("best() put(0) put(1) ways() fewest()", 14, 0, 1, 2, 2);
    }

    private static void leastRow() {
        // 1 does it in FIELD 1 with nobody or 0 in FIELD 0
        Run.told("Promise 47: the least row, nobody first", head(1) + "field corn 9 rooks 0;field corn 9 rooks 5;"
                + "man frights 1 tires 0;man frights 5 tires 0;").due("best() put(0) put(1) ways() fewest()", 18, -1, 1, 2, 1);
        // 0 and 1 do it each in FIELD 0, and then nobody or the other one in FIELD 1
        Run.told("Promise 47: the least man", head(1) + "field corn 9 rooks 5;field corn 9 rooks 0;"
                + "man frights 5 tires 0;man frights 5 tires 0;").due("best() put(0) put(1) ways()", 18, 0, -1, 4);
        // one must stand in each: 0 1 is less than 1 0
        Run.told("Promise 47: the first FIELD first", head(1) + "field corn 9 rooks 5;field corn 9 rooks 5;"
                + "man frights 5 tires 0;man frights 5 tires 0;").due("best() put(0) put(1) ways() fewest()", 18, 0, 1, 2, 2);
    }

    private static void fewest() {
        // 0 in FIELD 0 and 1 in FIELD 1 leave 1 + 4, 1 in FIELD 0 alone (or with 0) leaves 5 + 0
        Run.told("Promise 49: by another row than the least", "hundred days 2 law 0 odds 0;field corn 9 rooks 5;"
                + "field corn 4 rooks 3;man frights 1 tires 0;man frights 3 tires 0;")
                .due("best() put(0) put(1) ways() fewest()", 5, 0, 1, 3, 1);
        Run.told("Promise 49: as many as there are", head(1) + "field corn 9 rooks 5;".repeat(5) + "man frights 5 tires 0;".repeat(5))
                .due("best() ways() fewest() put(0) put(4)", 45, 120, 5, 0, 4);
    }

    private static void speechesCount() {
        Run x = Run.told("Promises 46 to 49: speeches as by acts, puts aside", head(2) + "field corn 20 rooks 5;"
                + "man frights 2 tires 0;man frights 5 tires 5;");
        // 0 leaves 14, 1 leaves 15, with a SPEECH on DAY 1 20
        x.due("best() put(0) all(2)", 15, 1, 14).after("speaks(0, 1)").due("best() put(0) all(2)", 20, 1, 14);
        x.after("puts(0, -1)").due("best() put(0) ways() all(2)", 20, 1, 1, 10).after("undo() undo()").due("best()", 15);
    }

    private static void putBounds() {
        Run.told("Promise 47: there is none such", head(1) + "field corn 1 rooks 0;field corn 1 rooks 0;man frights 1 tires 0;")
                .due("put(0) put(1) put(2) put(-1) put(MAX) put(MIN) put(32)", -1, -1, -2, -2, -2, -2, -2);
    }

    private static void lawBounds() {
        Run x = Run.told("Promise 50: LAWS 0 to 3", head(1) + "field corn 20 rooks 5;man frights 1 tires 0;man frights 5 tires 0;"
                + "man frights 3 tires 0;voter hats 4 0 2;voter hats 3 1 2;voter hats 3 2 1;");
        // LAW 0 elects 0; 1 and 3 elect 2; by 2 2 is taken out, 1 is elected
        x.due("by(0) by(1) by(2) by(3) law()", 16, 18, 20, 18, 2);
        x.each(-2, "by(4) by(-1) by(MAX) by(MIN) by(32)");
        x.after("puts(0, 1)").due("all(1) by(0) by(2) law()", 20, 16, 20, 2);
        x.after("puts(0, -1)").due("all(1) by(0) by(3)", 15, 16, 18);
    }

    private static void lawLeast() {
        Run.told("Promise 51: the least of several", head(1) + "field corn 20 rooks 5;man frights 1 tires 0;man frights 3 tires 0;")
                .due("by(0) by(1) by(2) by(3) law()", 16, 16, 16, 16, 0);
        // LAW 3 is told; 1 and 3 elect 2, by whom most is left
        Run.told("Promise 51: the least of two", "hundred days 1 law 3 odds 0;field corn 20 rooks 5;man frights 1 tires 0;"
                + "man frights 2 tires 0;man frights 3 tires 0;voter hats 4 0 2;voter hats 3 1 2;voter hats 3 2 1;")
                .due("by(0) by(1) by(2) by(3) law()", 16, 18, 17, 18, 1);
        // a SPEECH in FIELD 0 keeps it for who tires
        Run x = Run.told("Promises 50, 51: speeches are not aside", head(2) + "field corn 20 rooks 5;man frights 1 tires 0;"
                + "man frights 5 tires 5;man frights 3 tires 0;voter hats 4 0 2;voter hats 3 1 2;voter hats 3 2 1;");
        x.due("by(0) by(1) by(2) law()", 12, 16, 15, 1).after("speaks(0, 1)").due("by(0) by(1) by(2) law()", 12, 16, 20, 2);
    }

    private static void speechBounds() {
        Run.told("Promise 52: NONE, if not more", head(2) + "field corn 9 rooks 2;man frights 1 tires 0;").due("speech()", -1);
        // FEAR is gone on the last DAY alone
        Run.told("Promise 52: ahead of the last DAY", head(1) + "field corn 9 rooks 2;man frights 2 tires 2;").due("speech()", -1);
        Run.told("Promise 52: the DAY ahead of the last", head(2) + "field corn 9 rooks 2;man frights 2 tires 2;")
                .due("speech()", 1).after("speaks(0, 1)").due("speech()", -1);
        // FEAR 15 14 .. 1 0: one is eaten on the DAY 15, and a SPEECH on each DAY but DAY 0 keeps it
        Run.told("Promise 52: DAY 0 is no SPEECH more", head(16) + "field corn 0 rooks 0;field corn 16 rooks 1;"
                + "man frights 0 tires 0;man frights 15 tires 1;").due("eats(1) eaten(1, 15) speech()", 1, 1, 101)
                .after("speaks(1, 14)").due("eats(1) speech()", 0, -1);
        Run x = Run.told("Promise 52: FIELD 4, DAY 15", head(16) + "field corn 0 rooks 0;".repeat(4) + "field corn 99 rooks 1;"
                + "man frights 0 tires 0;".repeat(4) + "man frights 1 tires 1;");
        for (int day = 1; day < 15; day++) {
            x.due("speech() speaks(4, " + day + ")", 400 + day, 1);
        }
        x.due("speech() count(7) speaks(4, 15) speech()", 415, 14, 1, -1);
    }

    private static void speechFirst() {
        // FEAR 9 0 0 0: each SPEECH on DAY 1, 2, 3 keeps 9, in either FIELD
        Run.told("Promise 52: the first of several", head(4) + "field corn 99 rooks 9;field corn 99 rooks 9;"
                + "man frights 9 tires 9;man frights 9 tires 9;").due("speech()", 1)
                .due("speaks(0, 1) speech()", 9, 2).due("speaks(0, 2) speaks(0, 3) speech()", 9, 9, 101);
        // FIELD 1 has more to keep
        Run.told("Promise 52: by which most is left", head(2) + "field corn 99 rooks 4;field corn 99 rooks 9;"
                + "man frights 4 tires 4;man frights 9 tires 9;").due("speech()", 101);
    }

    private static void gapBounds() {
        Run.told("Promise 53: one FIELD", head(2) + "field corn 9 rooks 2;man frights 1 tires 0;").due("gap()", -1);
        Run.told("Promise 53: NONE, if not more", head(2) + "field corn 9 rooks 2;field corn 9 rooks 0;man frights 0 tires 0;")
                .due("gap()", -1);
        // with a HEDGE 2 fly to FIELD 1 that has no corn
        Run.told("Promise 53: two FIELDS", head(2) + "field corn 9 rooks 2;field corn 0 rooks 0;man frights 2 tires 2;")
                .due("all(2) gap()", 7, 1);
        Run.told("Promise 53: the last two", head(2) + "field corn 0 rooks 0;".repeat(4) + "field corn 9 rooks 2;"
                + "man frights 9 tires 0;".repeat(4) + "man frights 2 tires 2;").due("gap()", 4);
    }

    private static void gapFirst() {
        // to 1, 2 or 3: all alike
        Run.told("Promise 53: the first of several", head(2) + "field corn 9 rooks 2;" + "field corn 0 rooks 0;".repeat(3)
                + "man frights 2 tires 2;").due("gap()", 1);
        // FIELD 2 is joined to 1, which has corn; with a HEDGE to 0 they fly there, as it has as little FEAR and is the first
        Run.told("Promise 53: by which most is left", head(2) + "field corn 0 rooks 0;field corn 9 rooks 0;field corn 9 rooks 2;"
                + "hedge 1 2;man frights 0 tires 0;man frights 0 tires 0;man frights 2 tires 2;")
                .due("all(2) gap()", 16, 2);
        Run.told("Promise 53: a HEDGE more where there is one", head(2) + "field corn 0 rooks 0;field corn 9 rooks 2;hedge 0 1;"
                + "man frights 0 tires 0;man frights 2 tires 2;").due("all(2) gap()", 9, -1);
        Run.told("Promise 53: 34", head(2) + "field corn 9 rooks 0;".repeat(3) + "field corn 0 rooks 0;field corn 9 rooks 2;"
                + "man frights 0 tires 0;".repeat(4) + "man frights 2 tires 2;hedge 0 3;hedge 1 3;hedge 2 3;").due("gap()", 34);
    }

    private static void gapBesidesOthers() {
        // FIELD 0's rooks fly to FIELD 1 and eat there; FIELD 2 has more FEAR than FIELD 1
        Run.told("Promise 53: the HEDGES that there are stay", head(2) + "field corn 9 rooks 2;field corn 9 rooks 0;"
                + "field corn 0 rooks 0;hedge 0 1;man frights 2 tires 2;man frights 0 tires 0;man frights 1 tires 0;")
                .due("all(2) gap()", 16, -1);
        Run.told("Promise 53: the HEDGES of the other one stay", head(2) + "field corn 0 rooks 0;field corn 9 rooks 0;"
                + "field corn 9 rooks 2;hedge 1 2;man frights 1 tires 0;man frights 0 tires 0;man frights 2 tires 2;")
                .due("all(2) gap()", 16, -1);
        // on DAY 0 2 eat in FIELD 1, 5 and 6 fly; on DAY 1 7 are in FIELD 1, one above FEAR; were FIELD 0 joined to itself, 5 would stay
        Run.told("Promise 53: no HEDGE from a FIELD to itself", head(2) + "field corn 0 rooks 5;field corn 9 rooks 8;hedge 0 1;"
                + "man frights 5 tires 0;man frights 6 tires 0;").due("all(1) all(2) gap()", 7, 6, -1);
    }

    private static void gapAtEightHedges() {
        Run.told("Promise 53: besides eight HEDGES", head(2) + "field corn 9 rooks 2;field corn 0 rooks 0;field corn 0 rooks 0;"
                + "hedge 1 2;".repeat(8) + "man frights 2 tires 2;").due("count(4) gap() count(4) hedges(0)", 8, 1, 8, 0);
    }

    private static void restBounds() {
        Run x = Run.told("Promises 57, 58: two FIELDS", head(1) + "field corn 9 rooks 0;".repeat(3));
        x.due("rests(0, 1) rests(2, 0) gets(0, 1, 0, 0) gets(2, 1, 1, 1)", 1, 1, 9, 1);
        x.each(-2, "rests(0, 0) rests(2, 2) rests(0, 3) rests(3, 0) rests(3, 3) rests(-1, 0) rests(0, -1) rests(-1, -1)");
        x.each(-1000, "gets(0, 0, 0, 0) gets(2, 2, 1, 1) gets(0, 3, 0, 0) gets(3, 0, 0, 0) gets(-1, 0, 0, 0) gets(0, -1, 0, 0)");
        x.each(-1000, "gets(0, 1, 2, 0) gets(0, 1, -1, 0) gets(0, 1, 0, 2) gets(0, 1, 0, -1) gets(0, 1, MAX, 0) gets(0, 1, 0, MIN)");
        Run.told("Promises 57, 58: one FIELD", head(1) + "field corn 9 rooks 0;").due("rests(0, 0) rests(0, 1) rests(1, 0)"
                + "gets(0, 0, 0, 0) gets(0, 1, 0, 0) gets(1, 0, 0, 0)", -2, -2, -2, -1000, -1000, -1000);
        Run.told("Promises 57, 58: no FIELDS", head(1)).due("rests(0, 1) gets(0, 1, 0, 0)", -2, -1000);
        new Run("Promises 57, 58: no HUNDRED").due("rests(0, 1) gets(0, 1, 0, 0)", -2, -1000);
    }

    private static void restPairs() {
        String likes = "man frights 9 tires 9;man frights 9 tires 9;";
        // a SPEECH on each DAY keeps 8, less 8: as much as without
        Run.told("Promise 57: as much is not more", head(2) + "field corn 30 rooks 8;field corn 30 rooks 8;" + likes)
                .due("gets(0, 1, 0, 0) gets(0, 1, 1, 0) gets(0, 1, 0, 1) gets(0, 1, 1, 1) rests(0, 1)", 22, 22, 22, 22, 15);
        Run.told("Promise 57: both", head(2) + "field corn 30 rooks 9;field corn 30 rooks 9;" + likes).due("rests(0, 1)", 8);
        Run.told("Promise 57: neither", head(2) + "field corn 30 rooks 7;field corn 30 rooks 7;" + likes).due("rests(0, 1)", 1);
        Run.told("Promise 57: the first one, the other one", head(2) + "field corn 30 rooks 9;field corn 30 rooks 7;" + likes)
                .due("rests(0, 1) rests(1, 0)", 2, 4);
        Run.told("Promise 57: the first one either way", head(2) + "field corn 30 rooks 8;field corn 30 rooks 7;" + likes)
                .due("rests(0, 1) rests(1, 0)", 3, 5);
        Run.told("Promise 57: the first one or none, the other one does", head(2) + "field corn 30 rooks 8;field corn 30 rooks 9;"
                + likes).due("rests(0, 1) rests(1, 0)", 12, 10);
    }

    private static void byTheOthersChoice() {
        // speeches in FIELD 1 send 9 rooks more to FIELD 0
        Run.told("Promises 57, 58: by the other one's choice", head(3) + "field corn 30 rooks 0;field corn 40 rooks 18;hedge 0 1;"
                + "man frights 0 tires 0;man frights 9 tires 9;")
                .due("gets(0, 1, 0, 0) gets(0, 1, 0, 1) gets(0, 1, 1, 0) gets(0, 1, 1, 1)", 12, 3, 4, -5)
                .due("gets(1, 0, 0, 0) gets(1, 0, 0, 1) gets(1, 0, 1, 0) gets(1, 0, 1, 1)", 13, 13, 23, 23)
                .due("rests(0, 1) rests(1, 0)", 4, 2);
        // FIELD 0 gains 1 by a SPEECH if 1, who tires, is put there
        Run.told("Promise 57: by who stands there now", head(2) + "field corn 30 rooks 9;field corn 30 rooks 9;"
                + "man frights 9 tires 0;man frights 9 tires 9;").due("puts(1, -1) rests(0, 1) puts(0, 1) rests(0, 1)", 1, 1, 0, 2);
    }

    private static void getsBelowZero() {
        Run x = Run.told("Promise 58: below 0, too", head(2) + "field corn 3 rooks 9;field corn 0 rooks 0;man frights 0 tires 0;");
        x.due("gets(0, 1, 0, 0) gets(0, 1, 1, 0) gets(1, 0, 1, 1) gets(1, 0, 0, 1)", 0, -8, -8, 0);
        x.due("count(7) all(2)", 0, 0);
        // of FEAR 9 5 1 there are 4 eaten on DAY 1, 8 on DAY 2; besides a SPEECH by an act on DAY 2
        Run.told("Promise 58: besides", head(3) + "field corn 30 rooks 9;field corn 0 rooks 0;man frights 9 tires 4;")
                .due("gets(0, 1, 0, 0) gets(0, 1, 1, 0) speaks(0, 2) gets(0, 1, 0, 0) gets(0, 1, 1, 0)", 18, 22, 9, 26, 22);
    }
}
