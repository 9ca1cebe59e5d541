/** Each promise of the document with answers worked out by hand: ordinary ones, edges, wrong inputs. */
public final class PromisesTest {
    private static final String HEAD = "hundred days 4 law 0 odds 0;";
    /**
     * Law 0 elects 0, 1, 2 into the FIELDS 0, 1, 2. FEAR is 6 4 2 0 0, 3 3 3 3 3, 9 4 0 0 0; rooks 10 7 6 4 7, 4 7 8 7 4,
     * 0 0 0 3 3; corn 50 46 43 39 35, 30 29 25 20 16, 20 20 20 20 17.
     */
    private static final String THREE = "hundred days 4 law 0 odds 3;"
            + "field corn 50 rooks 10; field corn 30 rooks 4; field corn 20 rooks 0; hedge 0 1; hedge 1 2;"
            + "man frights 6 tires 2; man frights 3 tires 0; man frights 9 tires 5;"
            + "voter hats 3 0 1; voter hats 2 1 2 0; voter hats 2 2;";
    /** One FIELD without a HEDGE, nobody votes: the first man is elected. */
    private static final String ONE = "hundred days 2 law 0 odds 5; field corn 10 rooks 5;"
            + "man frights 2 tires 0; man frights 5 tires 5;";
    private static final String BARE_HEAD = "hundred days 2 law 3 odds 0;";

    private PromisesTest() { }

    public static void main(String[] args) {
        newObject();
        tape();
        hundred();
        faultPlaces();
        faultsOfOnePlace();
        whatIsTold();
        votesAndElects();
        lawTwoTakesTheLastOut();
        electedStandsWhere();
        overBeatsRings();
        leastGainsPlain();
        powers();
        lovedShunnedSwingsTired();
        days();
        daySums();
        dayEdges();
        corners();
        rowsOfMen();
        lawsAndSpeech();
        gaps();
        seen();
        games();
        chances();
        actsOfPutting();
        actsOfSpeaking();
        takingBack();
        draws();
        rates();
        counts();
        images();
        slotRows();
        pasting();
        withoutHundred();
        Check.finish();
    }

    private static void due(String call, long got, long want) {
        Check.due(call, got, want);
    }

    private static void all(String call, int[] got, int... want) {
        for (int i = 0; i < want.length; i++) {
            due(call + " #" + i, got[i], want[i]);
        }
    }

    /** Promise 1. */
    private static void newObject() {
        RookHusting x = new RookHusting();
        due("NONE", RookHusting.NONE, -1);
        for (int what = 0; what <= 10; what++) {
            due("new count(" + what + ")", x.count(what), 0);
        }
        due("new beats()", x.beats(), -2);
        due("new all(0)", x.all(0), -2);
        due("new back(0)", x.back(0), -6);
        due("new write(0,0,0)", x.write(0, 0, 0), -6);
    }

    /** Promises 2, 3. */
    private static void tape() {
        RookHusting x = new RookHusting();
        due("end(0) of none", x.end(0), 0);
        due("end(1) of none", x.end(1), -1);
        for (int i = 1; i <= 35; i++) {
            due("feed", x.feed(0, 0, 0, 0, 0), 20 * i);
        }
        due("feed beyond 700", x.feed(0, 0, 0, 0, 0), -1);
        due("count(9) of 700", x.count(9), 700);
        due("end(701)", x.end(701), -1);
        due("end(-1)", x.end(-1), -1);
        due("end(681)", x.end(681), 681);
        due("feed would be 701", x.feed(0, 0, 0, 0, 0), -1);
        due("count(9) of 681", x.count(9), 681);
        due("end(680)", x.end(680), 680);
        due("feed to 700", x.feed(0, 0, 0, 0, 0), 700);
        due("end(0)", x.end(0), 0);
        // "hundred days 3 law 2" " odds 10;" by hand, the highest byte first
        due("feed 1", x.feed(0x68756e64, 0x72656420, 0x64617973, 0x2033206c, 0x61772032), 20);
        due("feed 2", x.feed(0x206f6464, 0x73203130, 0x3b414141, 0, 0), 40);
        due("end(29)", x.end(29), 29);
        due("hundred()", x.hundred(), 1);
        due("days", x.count(0), 3);
        due("law", x.count(1), 2);
        due("odds", x.count(2), 10);
    }

    /** Promise 4. */
    private static void hundred() {
        RookHusting x = Check.told(THREE);
        due("the TAPE is empty", x.count(9), 0);
        due("LINES", x.count(8), 12);
        x.puts(0, 1);
        Check.feedText(x, ONE);
        due("another HUNDRED", x.hundred(), 4);
        due("nothing done", x.count(7), 0);
        due("its FIELDS", x.count(3), 1);
        x.speaks(0, 1);
        Check.feedText(x, HEAD + "field corn");
        due("a FAULT", x.hundred(), -4);
        due("the TAPE stays", x.count(9), 38);
        due("the HUNDRED stays", x.count(8), 4);
        due("acts stay", x.count(7), 1);
        due("again", x.hundred(), -4);
        Check.feedText(x, " 7 rooks 1;");
        due("gone on with", x.hundred(), 2);
        due("corn", x.field(0, 0), 7);
        Check.feedText(x, " \n ");
        due("blanks alone", x.hundred(), 0);
        due("there is none", x.beats(), -2);
        due("no FIELD", x.field(0, 0), -2);
        due("no TAPE", x.count(9), 0);
        for (int what = 0; what <= 8; what++) {
            due("without a HUNDRED again count(" + what + ")", x.count(what), 0);
        }
        RookHusting y = Check.told("hundred\ndays16law3odds10;field corn 0300rooks 40;");
        due("longest TOKENS", y.field(0, 0), 300);
        due("its days", y.count(0), 16);
    }

    private static void isFault(String text, int fault, int place) {
        RookHusting x = new RookHusting();
        Check.feedText(x, text);
        due("hundred() of '" + text + "'", x.hundred(), -4);
        due("fault(0) of '" + text + "'", x.fault(0), fault);
        due("fault(1) of '" + text + "'", x.fault(1), place);
    }

    /** Promises 4, 5. */
    private static void faultPlaces() {
        isFault("field corn 1", 1, 0);
        isFault(";", 1, 0);
        isFault("  Hundred", 1, 2);
        isFault("hundre days", 1, 0);
        isFault("hundreds days", 1, 0);
        isFault("gundred days 1 law 0 odds 0;", 1, 0);
        isFault("hundree days 1 law 0 odds 0;", 1, 0);
        isFault(HEAD + "fieldz corn 1 rooks 1;", 1, 28);
        isFault(HEAD + "afield corn 1 rooks 1;", 1, 28);
        isFault("hundred", 1, 7);
        isFault("hundred  \n", 1, 10);
        isFault("hundred days 4;", 1, 14);
        isFault("hundred days x", 1, 13);
        isFault("hundred days 0 law", 2, 13);
        isFault("hundred days 17", 2, 13);
        isFault("hundred days 4294967297 law 0 odds 0;", 2, 13);
        isFault("hundred days 18446744073709551617 law 0 odds 0;", 2, 13);
        isFault("hundred days -1", 1, 13);
        isFault("hundred days 4 law 4", 2, 19);
        isFault("hundred days 4 law 0 odds 11;", 2, 26);
        isFault("hundred days 4 law 0 odds 0", 1, 27);
        isFault("hundred days 4 odds 0 law 0;", 1, 15);
        isFault(HEAD + "hundred days 4 law 0 odds 0;", 1, 28);
        isFault(HEAD + ";", 1, 28);
        isFault(HEAD + " 5;", 1, 29);
        isFault(HEAD + "days", 1, 28);
        isFault(HEAD + "\t", 1, 28);
        isFault(HEAD + "field corn 301 rooks 0;", 2, 39);
        isFault(HEAD + "field corn 1 rooks 41;", 2, 47);
        isFault(HEAD + "field rooks 1", 1, 34);
        isFault(HEAD + "field corn 1 rooks 1 1;", 1, 49);
        isFault(HEAD + "field corn 1 rooks 1;hedge 0 0;", 2, 57);
        isFault(HEAD + "field corn 1 rooks 1;hedge 0 1;", 2, 57);
        isFault(HEAD + "hedge 0 1;field corn 1 rooks 1;", 2, 34);
        isFault(HEAD + "man frights 41 tires 1;", 2, 40);
        isFault(HEAD + "man frights 40 tires 10;", 2, 49);
        isFault(HEAD + "voter hats 0;", 2, 39);
        isFault(HEAD + "voter hats 10;", 2, 39);
        isFault(HEAD + "voter hats 1 0;", 2, 41);
        isFault(HEAD + "voter hats;", 1, 38);
        isFault(HEAD + "man frights 1 tires 1;voter hats 1 0 0;", 2, 65);
        isFault(HEAD + "man frights 1 tires 1;voter hats 1 1;", 2, 63);
        isFault(HEAD + "voter hats 1;man frights 1 tires 1;", 1, 41);
        isFault(HEAD + (char) 233, 1, 28);
    }

    /** Promises 4, 5. */
    private static void faultsOfOnePlace() {
        String fields = "field corn 1 rooks 1;".repeat(5);
        isFault(HEAD + fields + "field corn 999", 3, 28 + 105);
        String men = "man frights 1 tires 1;".repeat(5);
        isFault(HEAD + men + "man", 3, 28 + 110);
        isFault(HEAD + men + "voter hats 1;man", 1, 28 + 110 + 13);
        isFault(HEAD + "voter hats 1;".repeat(7) + "voter hats 1;", 3, 28 + 91);
        String pair = "field corn 1 rooks 1;".repeat(2);
        isFault(HEAD + pair + "hedge 0 1;".repeat(8) + " hedge 0 0;", 3, 28 + 42 + 81);
        isFault(HEAD + men + "voter hats 1 0 1 2 3 4 5;", 2, 28 + 110 + 23);
        RookHusting x = Check.told(HEAD + fields + "hedge 0 1;".repeat(8) + men + "voter hats 1 4 3 2 1 0;".repeat(7));
        due("all LINES", x.count(8), 26);
        due("HEDGES of two FIELDS count each", x.count(4), 8);
        due("fault(0) without", x.fault(0), 0);
        due("fault(1) without", x.fault(1), -1);
        due("fault(2)", x.fault(2), -1);
        due("fault(-1)", x.fault(-1), -1);
        due("fault(0) of a new one", new RookHusting().fault(0), 0);
        due("fault(1) of a new one", new RookHusting().fault(1), -1);
        Check.feedText(x, "x");
        x.hundred();
        due("fault of the latest", x.fault(0), 1);
        x.end(0);
        x.hundred();
        due("no fault of the latest", x.fault(0), 0);
    }

    /** Promises 6 to 10. */
    private static void whatIsTold() {
        RookHusting x = Check.told(THREE);
        all("field", new int[] {x.field(0, 0), x.field(0, 1), x.field(2, 0), x.field(2, 1)}, 50, 10, 20, 0);
        all("no field", new int[] {x.field(3, 0), x.field(-1, 0), x.field(0, 2), x.field(0, -1)}, -2, -2, -2, -2);
        all("hedges", new int[] {x.hedges(0), x.hedges(1), x.hedges(2), x.hedges(3), x.hedges(-1)}, 2, 5, 2, -2, -2);
        all("man", new int[] {x.man(0, 0), x.man(0, 1), x.man(2, 0), x.man(2, 1)}, 6, 2, 9, 5);
        all("no man", new int[] {x.man(3, 0), x.man(-1, 0), x.man(0, 2), x.man(0, -1)}, -2, -2, -2, -2);
        all("hats", new int[] {x.hats(0), x.hats(1), x.hats(3), x.hats(-1)}, 3, 2, -2, -2);
        all("wants", new int[] {x.wants(1, 0), x.wants(1, 1), x.wants(1, 2), x.wants(2, 0)}, 1, 2, 0, 2);
        all("wants none", new int[] {x.wants(2, 1), x.wants(1, 3), x.wants(1, -1), x.wants(3, 0), x.wants(-1, 0)},
                -1, -1, -1, -2, -2);
    }

    /** Promises 11, 12. */
    private static void votesAndElects() {
        RookHusting x = Check.told(THREE);
        all("law 0", new int[] {x.votes(7, 0, 0), x.votes(7, 0, 1), x.votes(7, 0, 2), x.elects(7, 0)}, 3, 2, 2, 0);
        all("law 1", new int[] {x.votes(7, 1, 0), x.votes(7, 1, 1), x.votes(7, 1, 2), x.elects(7, 1)}, 6, 7, 6, 1);
        all("law 2", new int[] {x.votes(7, 2, 0), x.votes(7, 2, 1), x.votes(7, 2, 2), x.elects(7, 2)}, 3, 2, 2, 0);
        all("law 3", new int[] {x.votes(7, 3, 0), x.votes(7, 3, 1), x.votes(7, 3, 2), x.elects(7, 3)}, 3, 5, 4, 1);
        all("of 1 and 2", new int[] {x.votes(6, 0, 1), x.votes(6, 0, 2), x.votes(6, 1, 1), x.votes(6, 3, 2)}, 5, 2, 5, 4);
        all("of one", new int[] {x.votes(4, 0, 2), x.votes(4, 1, 2), x.elects(4, 1), x.elects(4, 2)}, 4, 0, 2, 2);
        all("no votes", new int[] {x.votes(6, 0, 0), x.votes(8, 0, 0), x.votes(-1, 0, 0), x.votes(7, 4, 0),
            x.votes(7, -1, 0), x.votes(7, 0, 3), x.votes(7, 0, -1)}, -2, -2, -2, -2, -2, -2, -2);
        all("elects none", new int[] {x.elects(0, 0), x.elects(0, 2), x.elects(8, 0), x.elects(-1, 0), x.elects(7, 4),
            x.elects(7, -1)}, -1, -1, -2, -2, -2, -2);
    }

    /** Promise 12. */
    private static void lawTwoTakesTheLastOut() {
        // 0 has 2, 1 has 1, 2 has 1: 2 goes, then his hat goes to 1; 0 and 1 are alike, 1 goes
        RookHusting x = Check.told("hundred days 1 law 2 odds 0;" + "man frights 1 tires 1;".repeat(3)
                + "voter hats 2 0; voter hats 1 1; voter hats 1 2 1;");
        due("runoff", x.elects(7, 2), 0);
        due("of 1 and 2", x.elects(6, 2), 1);
        RookHusting y = Check.told("hundred days 1 law 2 odds 0;" + "man frights 1 tires 1;".repeat(3)
                + "voter hats 4 0; voter hats 3 1; voter hats 2 2 1;");
        due("runoff turns it", y.elects(7, 2), 1);
        due("law 0", y.elects(7, 0), 0);
        RookHusting z = Check.told("hundred days 1 law 0 odds 0;" + "man frights 1 tires 1;".repeat(3));
        all("without voters", new int[] {z.elects(7, 0), z.elects(6, 1), z.elects(7, 2), z.elects(4, 3)}, 0, 1, 0, 2);
    }

    /** Promises 13 to 15. */
    private static void electedStandsWhere() {
        RookHusting x = Check.told(THREE);
        all("elected", new int[] {x.elected(0), x.elected(1), x.elected(2), x.elected(3), x.elected(-1)}, 0, 1, 2, -2, -2);
        all("stands", new int[] {x.stands(0), x.stands(1), x.stands(2), x.stands(3), x.stands(-1)}, 0, 1, 2, -2, -2);
        all("where", new int[] {x.where(0), x.where(2), x.where(3), x.where(-1)}, 0, 2, -2, -2);
        x.puts(0, 2);
        all("acts aside", new int[] {x.elected(0), x.elected(2), x.stands(0), x.stands(2), x.where(0), x.where(2)},
                0, 2, 2, -1, -1, 0);
        RookHusting y = Check.told(HEAD + "field corn 1 rooks 1;".repeat(3) + "man frights 1 tires 1;".repeat(2)
                + "voter hats 1 1;");
        all("more FIELDS than MEN", new int[] {y.elected(0), y.elected(1), y.elected(2)}, 1, 0, -1);
    }

    /** Promises 16 to 18. */
    private static void overBeatsRings() {
        RookHusting x = Check.told(THREE);
        all("over", new int[] {x.over(0, 1), x.over(1, 0), x.over(0, 2), x.over(2, 0), x.over(1, 2), x.over(2, 1)},
                3, 2, 3, 4, 5, 2);
        all("not over", new int[] {x.over(1, 1), x.over(0, 3), x.over(3, 0), x.over(-1, 0), x.over(0, -1)},
                -2, -2, -2, -2, -2);
        due("beats nobody in a ring", x.beats(), -1);
        due("rings", x.rings(), 1);
        RookHusting y = Check.told(HEAD + "man frights 1 tires 1;".repeat(3)
                + "voter hats 3 1 0 2; voter hats 1 0 2 1; voter hats 1 2 1 0;");
        due("beats", y.beats(), 1);
        due("no rings", y.rings(), 0);
        RookHusting alike = Check.told(HEAD + "man frights 1 tires 1;".repeat(3) + "voter hats 1 0 1; voter hats 1 1 2 0;");
        due("alike is not more", alike.beats(), -1);
        due("alike is no ring", alike.rings(), 0);
        due("one man beats", Check.told(HEAD + "man frights 1 tires 1;").beats(), 0);
        due("no man beats", Check.told(HEAD).beats(), -1);
    }

    /** Promises 19 to 21. */
    private static void leastGainsPlain() {
        RookHusting x = Check.told(THREE);
        all("least", new int[] {x.least(0), x.least(1), x.least(2), x.least(3), x.least(-1)}, 0, 3, 5, -2, -2);
        all("gains", new int[] {x.gains(0), x.gains(1), x.gains(2), x.gains(3), x.gains(-1)}, 0, 1, 0, -2, -2);
        due("plain", x.plain(), 2);
        RookHusting never = Check.told(HEAD + "man frights 1 tires 1;".repeat(2) + "voter hats 1 0;");
        due("least by none", never.least(1), -1);
        // law 1: 0 has 4, 1 has 5; the first says 0 alone is not enough, but with 1 behind all he gains
        RookHusting y = Check.told("hundred days 1 law 1 odds 0;" + "man frights 1 tires 1;".repeat(3)
                + "voter hats 2 0 1 2; voter hats 1 1 2 0; voter hats 1 1 0 2;");
        all("law 1", new int[] {y.elects(7, 1), y.votes(7, 1, 0), y.votes(7, 1, 1)}, 1, 5, 6);
        due("gains by a ROW", y.gains(0), 1);
        due("plain by a ROW", y.plain(), 1);
        due("nobody to want", Check.told(HEAD + "voter hats 1;").plain(), 0);
    }

    /** Promise 22. */
    private static void powers() {
        RookHusting x = Check.told(THREE);
        all("alike", new int[] {x.power(0, 0), x.power(0, 1), x.power(2, 0), x.power(2, 1)}, 1, 3, 1, 3);
        all("no power", new int[] {x.power(3, 0), x.power(-1, 0), x.power(0, 2), x.power(0, -1)}, -2, -2, -2, -2);
        // half of all hats is not more than half: 2 of 4 do not decide
        RookHusting y = Check.told(HEAD + "voter hats 2; voter hats 1; voter hats 1;");
        all("two thirds", new int[] {y.power(0, 0), y.power(0, 1), y.power(1, 0), y.power(1, 1)}, 2, 3, 1, 6);
        RookHusting z = Check.told(HEAD + "voter hats 9; voter hats 1; voter hats 1;");
        all("dictator", new int[] {z.power(0, 0), z.power(0, 1), z.power(1, 0), z.power(1, 1)}, 1, 1, 0, 1);
        RookHusting w = Check.told(HEAD + "voter hats 3;".repeat(7));
        all("seven", new int[] {w.power(6, 0), w.power(6, 1)}, 1, 7);
    }

    /** Promises 34 to 37. */
    private static void lovedShunnedSwingsTired() {
        RookHusting x = Check.told(THREE);
        all("loved", new int[] {x.loved(0), x.loved(1), x.loved(2), x.loved(3), x.loved(-1)}, 3, 2, 2, -2, -2);
        all("shunned", new int[] {x.shunned(0), x.shunned(1), x.shunned(2), x.shunned(3), x.shunned(-1)}, 2, 2, 3, -2, -2);
        due("swings", x.swings(), 1);
        due("swings of none", Check.told(HEAD + "voter hats 1;").swings(), 0);
        all("tired", new int[] {x.tired(0), x.tired(1), x.tired(2), x.tired(3), x.tired(-1)}, 3, -1, 2, -2, -2);
        RookHusting y = Check.told("hundred days 1 law 0 odds 0; man frights 0 tires 0; man frights 40 tires 1;");
        all("tired at once, beyond the last", new int[] {y.tired(0), y.tired(1)}, 0, 40);
    }

    /** Promises 23 to 27. */
    private static void days() {
        RookHusting x = Check.told(THREE);
        int[][] fear = {{6, 4, 2, 0, 0}, {3, 3, 3, 3, 3}, {9, 4, 0, 0, 0}};
        int[][] rooks = {{10, 7, 6, 4, 7}, {4, 7, 8, 7, 4}, {0, 0, 0, 3, 3}};
        int[][] corn = {{50, 46, 43, 39, 35}, {30, 29, 25, 20, 16}, {20, 20, 20, 20, 17}};
        int[][] goal = {{1, 1, 1, -1}, {0, 0, 2, 0}, {-1, -1, -1, -1}};
        for (int f = 0; f < 3; f++) {
            for (int d = 0; d <= 4; d++) {
                due("fear(" + f + "," + d + ")", x.fear(f, d), fear[f][d]);
                due("rooks(" + f + "," + d + ")", x.rooks(f, d), rooks[f][d]);
                due("corn(" + f + "," + d + ")", x.corn(f, d), corn[f][d]);
            }
            for (int d = 0; d < 4; d++) {
                due("eaten(" + f + "," + d + ")", x.eaten(f, d), corn[f][d] - corn[f][d + 1]);
                due("flies(" + f + "," + d + ")", x.flies(f, d), goal[f][d]);
            }
        }
        int[][] wrong = {{3, 0}, {-1, 0}, {0, 5}, {0, -1}};
        for (int[] w : wrong) {
            all("none such", new int[] {x.fear(w[0], w[1]), x.rooks(w[0], w[1]), x.corn(w[0], w[1]), x.eaten(w[0], w[1]),
                x.flies(w[0], w[1])}, -2, -2, -2, -2, -2);
        }
        all("the last DAY", new int[] {x.eaten(0, 4), x.flies(0, 4), x.quiet(4), x.flown(4)}, -2, -2, -2, -2);
    }

    /** Promises 28 to 33, 39 to 45. */
    private static void daySums() {
        RookHusting x = Check.told(THREE);
        all("all", new int[] {x.all(0), x.all(1), x.all(2), x.all(3), x.all(4), x.all(5), x.all(-1)},
                100, 95, 88, 79, 68, -2, -2);
        all("black", new int[] {x.black(0), x.black(1), x.black(2), x.black(3), x.black(4), x.black(5), x.black(-1)},
                0, 0, 1, 1, 0, -2, -2);
        all("shoulder", new int[] {x.shoulder(0), x.shoulder(1), x.shoulder(2), x.shoulder(3), x.shoulder(-1)},
                3, -1, 2, -2, -2);
        all("bare", new int[] {x.bare(0), x.bare(3), x.bare(-1)}, -1, -2, -2);
        due("kept", x.kept(), 0);
        due("worst", x.worst(), 3);
        all("eats", new int[] {x.eats(0), x.eats(1), x.eats(2), x.eats(3), x.eats(-1)}, 15, 14, 3, -2, -2);
        all("quiet", new int[] {x.quiet(0), x.quiet(2), x.quiet(3), x.quiet(-1)}, 4, 4, 0, -2);
        due("peace", x.peace(), 0);
        all("bold", new int[] {x.bold(0), x.bold(2), x.bold(3), x.bold(-1)}, 4, 1, -2, -2);
        all("most", new int[] {x.most(0), x.most(1), x.most(2), x.most(3), x.most(-1)}, 10, 8, 3, -2, -2);
        all("flown", new int[] {x.flown(0), x.flown(1), x.flown(2), x.flown(3), x.flown(-1)}, 9, 7, 5, 3, -2);
        all("richest", new int[] {x.richest(0), x.richest(4), x.richest(5), x.richest(-1)}, 0, 0, -2, -2);
    }

    /** Promises 23 to 33, 38 to 45. */
    private static void dayEdges() {
        // nobody stands: all eat till nothing is left
        RookHusting x = Check.told("hundred days 3 law 0 odds 0; field corn 7 rooks 5; field corn 7 rooks 0; hedge 0 1;");
        all("bare field", new int[] {x.corn(0, 1), x.corn(0, 2), x.corn(0, 3), x.eaten(0, 1), x.eaten(0, 2), x.bare(0)},
                2, 0, 0, 2, 0, 2);
        all("nobody there", new int[] {x.fear(0, 0), x.flies(0, 0), x.shoulder(0), x.guards(), x.kept(), x.worst()},
                0, -1, 0, 0, 2, 0);
        all("richest changes", new int[] {x.richest(0), x.richest(1), x.peace(), x.bold(0), x.quiet(2), x.bare(1)},
                0, 1, 1, 2, 3, -1);
        // without a HEDGE the frightened stay and eat nothing
        RookHusting y = Check.told(ONE);
        all("no HEDGE", new int[] {y.rooks(0, 1), y.eaten(0, 0), y.flies(0, 0), y.flown(0), y.corn(0, 2)}, 5, 3, -1, 0, 4);
        // they fly all at once, to the least FEAR, and are not counted where they come from
        RookHusting z = Check.told("hundred days 2 law 0 odds 0;"
                + "field corn 9 rooks 5; field corn 9 rooks 3; field corn 9 rooks 1; hedge 0 1; hedge 0 2; hedge 1 2;"
                + "man frights 5 tires 0; man frights 3 tires 0; man frights 3 tires 0;");
        all("at once", new int[] {z.flies(0, 0), z.flies(1, 0), z.flies(2, 0), z.rooks(0, 1), z.rooks(1, 1), z.rooks(2, 1)},
                1, 2, 1, 0, 6, 3);
        all("all kept a while", new int[] {z.kept(), z.peace(), z.worst(), z.quiet(0), z.quiet(1)}, 5, 1, 1, 7, 5);
        // few rooks: all of them fly, not as many as FEAR
        due("all fly", z.flown(0), 9);
    }

    /** What a HUNDRED without FIELDS, MEN and VOTERS answers. */
    private static void corners() {
        RookHusting x = Check.told(BARE_HEAD);
        all("a HUNDRED of nothing", new int[] {x.beats(), x.rings(), x.plain(), x.elects(0, 3), x.swings(), x.guards()},
                -1, 0, 0, -1, 0, 0);
        all("no FIELDS", new int[] {x.all(2), x.black(0), x.richest(1), x.kept(), x.worst(), x.peace(), x.flown(0),
            x.quiet(1)}, 0, -1, -1, 0, 0, 2, 0, 0);
        all("nothing to put", new int[] {x.best(), x.ways(), x.fewest(), x.law(), x.speech(), x.gap(), x.by(3)},
                0, 1, 0, 0, -1, -1, 0);
        all("drawn", new int[] {x.drawn(5, 0), x.drawn(5, 1), x.anew(), x.undo(), (int) x.mean(1, 0), (int) x.mean(1, 1)},
                0, 0, 0, -5, 0, 1);
    }

    /** Promises 46 to 49. */
    private static void rowsOfMen() {
        RookHusting x = Check.told(ONE);
        all("one FIELD", new int[] {x.best(), x.put(0), x.ways(), x.fewest(), x.put(1), x.put(-1)}, 5, 1, 1, 1, -2, -2);
        // corn that no rook eats: every row does, and the least is of nobody
        RookHusting y = Check.told(HEAD + "field corn 5 rooks 0; field corn 5 rooks 0;" + "man frights 1 tires 1;".repeat(2));
        all("every row", new int[] {y.best(), y.ways(), y.fewest(), y.put(0), y.put(1)}, 10, 7, 0, -1, -1);
        RookHusting w = Check.told("hundred days 1 law 0 odds 0;" + "field corn 5 rooks 0;".repeat(5)
                + "man frights 1 tires 1;".repeat(5));
        due("all rows of five", w.ways(), 1546);
        // both men do in FIELD 1: the least row has nobody ahead of it, and the first of them
        RookHusting z = Check.told("hundred days 1 law 0 odds 0; field corn 5 rooks 0; field corn 5 rooks 4;"
                + "man frights 4 tires 1; man frights 4 tires 1;");
        all("two men do", new int[] {z.best(), z.put(0), z.put(1), z.ways(), z.fewest()}, 10, -1, 0, 4, 1);
        // 0 and 1 leave 1 + 4, 1 and nobody 5 + 0, 1 and 0 5 + 0: the least row is not of the fewest
        RookHusting v = Check.told("hundred days 2 law 0 odds 0; field corn 9 rooks 5; field corn 4 rooks 3;"
                + "man frights 1 tires 0; man frights 3 tires 0;");
        all("fewest of another row", new int[] {v.fewest(), v.best(), v.put(0), v.put(1), v.ways()}, 1, 5, 0, 1, 3);
        // a SPEECH by acts counts in each row
        x.speaks(0, 1);
        all("speeches as by acts", new int[] {x.best(), x.put(0), x.ways()}, 10, 1, 1);
        x.puts(0, -1);
        all("whoever is put now", new int[] {x.best(), x.put(0), x.stands(0)}, 10, 1, -1);
    }

    /** Promises 50 to 52. */
    private static void lawsAndSpeech() {
        RookHusting x = Check.told("hundred days 2 law 0 odds 0; field corn 20 rooks 5;"
                + "man frights 1 tires 0; man frights 5 tires 5; man frights 3 tires 0;"
                + "voter hats 4 0 2; voter hats 3 1 2; voter hats 3 2 1;");
        // law 0: 0 (4 eaten, 4 eaten); law 1: 2 (2, 2); law 2: 2 is taken out, then 1 beats 0 (0, 5); law 3: 2
        all("by", new int[] {x.by(0), x.by(1), x.by(2), x.by(3), x.by(4), x.by(-1)}, 12, 16, 15, 16, -2, -2);
        due("law", x.law(), 1);
        due("no speech helps", x.speech(), -1);
        x.puts(0, 1);
        due("a speech helps", x.speech(), 1);
        due("puts aside", x.by(0), 12);
        x.speaks(0, 1);
        due("speeches not aside", x.by(2), 20);
        due("law by a speech", x.law(), 2);
        due("nothing more to say", x.speech(), -1);
        RookHusting y = Check.told("hundred days 4 law 0 odds 0; field corn 99 rooks 9; field corn 99 rooks 9;"
                + "man frights 9 tires 9; man frights 9 tires 9;");
        due("the first of several", y.speech(), 1);
        y.puts(0, -1);
        due("of FIELD 1", y.speech(), 101);
    }

    /** Promise 53. */
    private static void gaps() {
        RookHusting x = Check.told("hundred days 2 law 0 odds 0;"
                + "field corn 50 rooks 10; field corn 0 rooks 0; field corn 0 rooks 0; man frights 6 tires 6;");
        // without a HEDGE 4 eat on DAY 0, 10 on DAY 1; with one 4 eat, then the 4 left there
        all("gap", new int[] {x.all(2), x.gap()}, 36, 1);
        RookHusting y = Check.told("hundred days 2 law 0 odds 0; field corn 0 rooks 0;"
                + "field corn 50 rooks 10; field corn 0 rooks 0; hedge 1 0; man frights 0 tires 0; man frights 6 tires 6;");
        due("joined already", y.gap(), -1);
        RookHusting z = Check.told("hundred days 2 law 0 odds 0; field corn 0 rooks 0; field corn 50 rooks 0;"
                + "field corn 50 rooks 10; hedge 1 2; man frights 3 tires 0; man frights 4 tires 0; man frights 6 tires 6;");
        all("a gap to less FEAR", new int[] {z.flies(2, 0), z.gap()}, 1, 2);
        due("only one FIELD", Check.told(ONE).gap(), -1);
    }

    /** Promises 54 to 56. */
    private static void seen() {
        // FIELD 0 has on DAY 1 4 rooks with 0 or 2, 0 with 1, 10 with nobody; on DAY 2 6 with 0, 10 with 2
        RookHusting x = Check.told("hundred days 2 law 0 odds 0; field corn 9 rooks 10; field corn 9 rooks 0; hedge 0 1;"
                + "man frights 6 tires 0; man frights 20 tires 0; man frights 6 tires 6; voter hats 1 0;");
        due("may of nothing", x.may(0, 0), -6);
        due("ask of nothing", x.ask(0, 0), -6);
        due("leaves of nothing", x.leaves(3, 0), -6);
        due("-2 ahead of -6", x.may(0, 2), -2);
        x.row(0, 1, 0);
        all("seen nothing", new int[] {x.may(0, 0), x.ask(0, 0), x.leaves(0, 0)}, 39, 1, 2);
        x.row(0, 1, 3);
        x.write(0, 1, 1);
        x.write(0, 2, 4);
        all("seen 4", new int[] {x.may(0, 0), x.ask(0, 0), x.leaves(0, 0)}, 5, 2, 1);
        x.write(0, 2, 0);
        all("seen 0", new int[] {x.may(0, 0), x.ask(0, 0), x.leaves(0, 0)}, 2, -1, 1);
        x.write(0, 2, 10);
        due("seen 10", x.may(0, 0), 32);
        x.write(0, 2, 250);
        all("seen by none", new int[] {x.may(0, 0), x.ask(0, 0), x.leaves(0, 0)}, 0, -1, 0);
        x.write(0, 2, 251);
        all("no such rooks", new int[] {x.may(0, 0), x.ask(0, 0), x.leaves(0, 0)}, -2, -2, -2);
        x.write(0, 2, -1);
        due("rooks below 0", x.may(0, 0), -2);
        x.write(0, 2, 65536 + 4);
        due("cut to its WIDTH", x.may(0, 0), 5);
        x.write(0, 1, 3);
        due("no such DAY", x.may(0, 0), -2);
        x.write(0, 1, 1);
        x.write(0, 0, 2);
        due("no such FIELD seen", x.may(0, 0), -2);
        all("no such SLOT, FIELD", new int[] {x.may(4, 0), x.may(-1, 0), x.ask(0, 2), x.leaves(0, -1)}, -2, -2, -2, -2);
        x.row(1, 0, 4);
        due("not three each", x.may(1, 0), -2);
        due("all as it was", x.stands(0), 0);
        x.row(2, 3, 6);
        x.write(2, 1, 1);
        x.write(2, 2, 10);
        x.write(2, 3, 1);
        x.write(2, 4, 1);
        x.write(2, 5, 0);
        due("two seen", x.may(2, 0), 32);
        x.write(2, 5, 1);
        due("two that do not fit", x.may(2, 0), 0);
    }

    /** Promises 57, 58. */
    private static void games() {
        // FIELD 0 alone: by speeches 2 DAYS of 9 rooks eat nothing; FIELD 1 gains nothing by them
        RookHusting x = Check.told("hundred days 3 law 0 odds 0; field corn 30 rooks 9; field corn 5 rooks 9;"
                + "man frights 9 tires 9; man frights 0 tires 0;");
        all("gets", new int[] {x.gets(0, 1, 0, 0), x.gets(0, 1, 1, 0), x.gets(1, 0, 0, 1), x.gets(1, 0, 1, 0)},
                12, 22, 0, -8);
        all("gets by both", new int[] {x.gets(0, 1, 0, 1), x.gets(0, 1, 1, 1)}, 12, 22);
        due("rests", x.rests(0, 1), 2);
        due("rests of the other", x.rests(1, 0), 4);
        all("no game", new int[] {x.gets(0, 0, 0, 0), x.gets(0, 2, 0, 0), x.gets(2, 0, 0, 0), x.gets(-1, 0, 0, 0),
            x.gets(0, 1, 2, 0), x.gets(0, 1, 0, -1)}, -1000, -1000, -1000, -1000, -1000, -1000);
        all("no rest", new int[] {x.rests(0, 0), x.rests(0, 2), x.rests(-1, 0)}, -2, -2, -2);
        // 8 gained for 8: both are at REST
        RookHusting y = Check.told("hundred days 2 law 0 odds 0; field corn 30 rooks 8; field corn 30 rooks 8;"
                + "man frights 8 tires 8; man frights 8 tires 8;");
        due("as much is not more", y.rests(0, 1), 15);
        RookHusting z = Check.told("hundred days 2 law 0 odds 0; field corn 30 rooks 9; field corn 30 rooks 9;"
                + "man frights 9 tires 9; man frights 9 tires 9;");
        due("both", z.rests(0, 1), 8);
        // speeches in FIELD 1 send 9 rooks more to FIELD 0
        RookHusting w = Check.told("hundred days 3 law 0 odds 0; field corn 30 rooks 0; field corn 40 rooks 18; hedge 0 1;"
                + "man frights 0 tires 0; man frights 9 tires 9;");
        all("by the other one", new int[] {w.gets(0, 1, 0, 0), w.gets(0, 1, 0, 1), w.gets(0, 1, 1, 0), w.gets(0, 1, 1, 1),
            w.gets(1, 0, 0, 0), w.gets(1, 0, 1, 0), w.rests(0, 1), w.rests(1, 0)}, 12, 3, 4, -5, 13, 23, 4, 2);
        due("neither", Check.told(HEAD + "field corn 9 rooks 1; field corn 9 rooks 1;").rests(0, 1), 1);
    }

    /** Promises 59, 60. */
    private static void chances() {
        RookHusting x = Check.told(ONE);
        // 3 are eaten on each DAY without WIND
        long[] got = {x.chance(0, 0, 8, 0), x.chance(0, 0, 8, 1), x.chance(0, 1, 7, 0), x.chance(0, 1, 7, 1),
            x.chance(0, 1, 11, 0), x.chance(0, 1, 11, 1), x.chance(0, 1, 0, 0), x.chance(0, 1, 4, 1),
            x.mean(0, 0), x.mean(0, 1), x.mean(1, 0), x.mean(1, 1)};
        long[] want = {1, 2, 3, 4, 0, 1, 1, 1, 17, 2, 7, 1};
        for (int i = 0; i < want.length; i++) {
            due("chance, mean #" + i, got[i], want[i]);
        }
        long[] wrong = {x.chance(1, 0, 0, 0), x.chance(-1, 0, 0, 0), x.chance(0, 2, 0, 0), x.chance(0, -1, 0, 0),
            x.chance(0, 0, -1, 0), x.chance(0, 0, 301, 0), x.chance(0, 0, 0, 2), x.chance(0, 0, 0, -1), x.mean(2, 0),
            x.mean(-1, 0), x.mean(0, 2), x.mean(0, -1)};
        for (int i = 0; i < wrong.length; i++) {
            due("no chance, mean #" + i, wrong[i], -2);
        }
        due("chance of 300", x.chance(0, 0, 300, 0), 0);
        RookHusting y = Check.told("hundred days 16 law 0 odds 3; field corn 300 rooks 1;");
        // at least 300 left behind 8 DAYS: WIND on all of them
        due("all WIND", y.chance(0, 7, 300, 0), 6561);
        due("all WIND below", y.chance(0, 7, 300, 1), 100000000);
        // the mean is 300 less 8 times 7 in 10
        due("mean", y.mean(7, 0), 1472);
        due("mean below", y.mean(7, 1), 5);
        due("DAY 8", y.chance(0, 8, 0, 0), -2);
        due("mean of DAY 8", y.mean(8, 0), -2);
        RookHusting z = Check.told("hundred days 2 law 0 odds 10; field corn 9 rooks 9; field corn 9 rooks 9; hedge 0 1;"
                + "man frights 9 tires 0;");
        due("WIND for sure", z.chance(0, 1, 9, 0), 1);
        due("no WIND elsewhere", z.rooks(0, 1), 0);
        due("no WIND eaten", z.all(1), 9);
    }

    /** Promises 38, 61. */
    private static void actsOfPutting() {
        RookHusting x = Check.told(THREE);
        due("puts", x.puts(0, 2), 0);
        all("moved", new int[] {x.stands(0), x.stands(1), x.stands(2), x.where(0), x.where(2), x.guards()},
                2, 1, -1, -1, 0, 6);
        due("puts where he stands", x.puts(0, 2), 2);
        all("as it was", new int[] {x.stands(0), x.where(2), x.count(7)}, 2, 0, 2);
        due("puts nobody", x.puts(1, -1), 1);
        all("nobody there", new int[] {x.stands(1), x.where(1), x.guards(), x.fear(1, 0)}, -1, -1, 4, 0);
        due("nobody again", x.puts(1, -1), -1);
        due("back into it", x.puts(1, 1), -1);
        all("none such", new int[] {x.puts(3, 0), x.puts(-1, 0), x.puts(0, 3), x.puts(0, -2)}, -2, -2, -2, -2);
        for (int acts = x.count(7); acts < 30; acts++) {
            x.puts(0, 0);
        }
        due("acts", x.count(7), 30);
        due("30 acts", x.puts(0, 0), -5);
        due("30 acts, no speech", x.speaks(0, 0), -5);
        due("-2 ahead of -5", x.puts(3, 0), -2);
        due("-2 ahead of -5 for a speech", x.speaks(0, 4), -2);
        due("one taken back", x.undo(), 29);
        due("one more", x.puts(0, 1), 0);
        due("30 again", x.puts(0, 1), -5);
    }

    /** Promise 62. */
    private static void actsOfSpeaking() {
        RookHusting x = Check.told(THREE);
        due("speaks", x.speaks(0, 2), 6);
        int[] fear = {6, 4, 6, 4, 2};
        for (int d = 0; d <= 4; d++) {
            due("fear behind a speech " + d, x.fear(0, d), fear[d]);
        }
        due("a later one", x.speaks(0, 3), 6);
        due("an earlier one", x.speaks(0, 1), 6);
        int[] more = {6, 6, 6, 6, 4};
        for (int d = 0; d <= 4; d++) {
            due("fear behind speeches " + d, x.fear(0, d), more[d]);
        }
        x.puts(0, 2);
        due("whoever stands there", x.fear(0, 3), 9);
        x.puts(0, -1);
        due("nobody speaks", x.speaks(0, 0), 0);
        all("none such", new int[] {x.speaks(3, 0), x.speaks(-1, 0), x.speaks(0, 4), x.speaks(0, -1)}, -2, -2, -2, -2);
        due("acts", x.count(7), 6);
    }

    /** Promises 63, 64. */
    private static void takingBack() {
        RookHusting x = Check.told(THREE);
        due("nothing to take back", x.undo(), -5);
        x.puts(0, 1);
        x.speaks(1, 2);
        x.puts(2, 0);
        due("undo", x.undo(), 2);
        all("the latest alone", new int[] {x.stands(0), x.stands(2), x.count(7)}, 1, 2, 2);
        due("anew", x.anew(), 2);
        all("as elected", new int[] {x.stands(0), x.stands(1), x.stands(2), x.count(7), x.all(4)}, 0, 1, 2, 0, 68);
        due("anew of none", x.anew(), 0);
        due("undo of none", x.undo(), -5);
    }

    /** Promises 65, 66. */
    private static void draws() {
        RookHusting x = Check.told("hundred days 8 law 0 odds 5; field corn 20 rooks 4; field corn 4 rooks 4;");
        // draws from 0: 0 8 8 7 8 7 5 1, from 7: 4 6 8 4 1 5 4 0, from 13: 0 3 2 3 3 3 0 4
        all("drawn from 0", new int[] {x.drawn(0, 0), x.drawn(0, 1)}, 129, 0);
        all("drawn from 7", new int[] {x.drawn(7, 0), x.drawn(7, 1)}, 217, 8);
        all("drawn from 13", new int[] {x.drawn(13, 0), x.drawn(13, 1)}, 255, 24);
        due("drawn from 2000000000", x.drawn(2000000000, 0), 39);
        all("none such", new int[] {x.drawn(-1, 0), x.drawn(2000000001, 0), x.drawn(0, 2), x.drawn(0, -1)}, -2, -2, -2, -2);
        all("luck none such", new int[] {x.luck(-1, 1, 0), x.luck(2000000001, 1, 0), x.luck(0, 0, 0), x.luck(0, 21, 0),
            x.luck(0, 1, 2), x.luck(0, 1, -1)}, -2, -2, -2, -2, -2, -2);
        due("luck", x.luck(7, 20, 0), 15);
        due("luck of one", x.luck(0, 1, 0), 0);
        due("luck by WIND on all DAYS", x.luck(7, 20, 1), 1);
        RookHusting y = Check.told("hundred days 3 law 0 odds 10; field corn 5 rooks 5;");
        all("always WIND", new int[] {y.drawn(9, 0), y.drawn(9, 1), y.luck(2000000000, 20, 0)}, 7, 5, 20);
        RookHusting z = Check.told("hundred days 3 law 0 odds 0; field corn 5 rooks 5;");
        all("never WIND", new int[] {z.drawn(9, 0), z.drawn(9, 1), z.luck(9, 20, 0)}, 0, 0, 0);
    }

    /** Promise 67. */
    private static void rates() {
        RookHusting x = Check.told(THREE);
        due("rate", x.rate(0, 40), 6);
        all("rated", new int[] {x.man(0, 0), x.fear(0, 0), x.fear(0, 4), x.tired(0)}, 40, 40, 32, 20);
        due("rate 0", x.rate(0, 0), 40);
        due("no FEAR", x.fear(0, 0), 0);
        all("none such", new int[] {x.rate(3, 1), x.rate(-1, 1), x.rate(0, 41), x.rate(0, -1)}, -2, -2, -2, -2);
        x.puts(0, 0);
        due("acts not taken back", x.rate(0, 5), -5);
        due("-2 ahead of -5", x.rate(0, 41), -2);
        due("as it was", x.man(0, 0), 0);
        x.undo();
        due("taken back", x.rate(0, 5), 0);
    }

    /** Promise 68. */
    private static void counts() {
        RookHusting x = Check.told(THREE);
        all("count", new int[] {x.count(0), x.count(1), x.count(2), x.count(3), x.count(4), x.count(5), x.count(6),
            x.count(7), x.count(8), x.count(9), x.count(10), x.count(11), x.count(-1)},
                4, 0, 3, 3, 2, 3, 3, 0, 12, 0, 0, -1, -1);
        x.row(0, 0, 0);
        x.row(3, 3, 60);
        due("SLOTS", x.count(10), 2);
        x.feed(0, 0, 0, 0, 0);
        due("bytes", x.count(9), 20);
        x.speaks(0, 0);
        due("acts", x.count(7), 1);
    }

    /** Promises 69, 70. */
    private static void images() {
        RookHusting x = Check.told(THREE);
        x.rate(1, 7);
        x.puts(0, 1);
        all("images", new int[] {x.image(0), x.image(3), x.image(-1), x.back(1), x.back(3), x.back(-1)},
                0, -2, -2, -6, -2, -2);
        x.anew();
        x.rate(1, 9);
        x.feed(1, 1, 1, 1, 1);
        x.row(2, 0, 1);
        due("back", x.back(0), 0);
        all("as it was", new int[] {x.stands(0), x.count(7), x.man(1, 0), x.count(9), x.count(10)}, 1, 1, 7, 20, 1);
        x.end(0);
        Check.feedText(x, ONE);
        x.hundred();
        due("another one", x.image(1), 0);
        x.back(0);
        due("the first one", x.count(8), 12);
        due("undo behind it", x.undo(), 0);
        x.back(0);
        due("an IMAGE stays as it is", x.count(7), 1);
        x.back(1);
        due("the other one", x.count(8), 4);
        RookHusting z = Check.told(THREE);
        z.puts(0, 1);
        z.speaks(2, 3);
        z.image(1);
        z.anew();
        z.speaks(1, 2);
        z.puts(2, 0);
        z.back(1);
        all("acts as they were", new int[] {z.stands(0), z.stands(1), z.stands(2), z.fear(2, 3), z.undo(), z.stands(0),
            z.fear(2, 3), z.undo(), z.stands(0)}, 1, -1, 2, 9, 1, 1, 0, 0, 0);
        RookHusting y = new RookHusting();
        due("image of no HUNDRED", y.image(2), 0);
        Check.feedText(y, ONE);
        y.hundred();
        due("back to no HUNDRED", y.back(2), 0);
        due("there is none", y.beats(), -2);
    }

    /** Promises 71, 72. */
    private static void slotRows() {
        RookHusting x = Check.told(HEAD + "field corn 0 rooks 4;");
        all("row", new int[] {x.row(0, 0, 60), x.row(3, 3, 0), x.row(4, 0, 1), x.row(-1, 0, 1), x.row(0, 4, 1),
            x.row(0, -1, 1), x.row(0, 0, 61)}, 0, 0, -2, -2, -2, -2, -2);
        due("n below 0", x.row(1, 0, -1), -3);
        due("-2 ahead of -3", x.row(4, 0, -1), -2);
        due("the SLOT stays", x.write(1, 0, 0), -6);
        all("write", new int[] {x.write(0, 59, 1), x.write(0, 60, 1), x.write(0, -1, 1), x.write(3, 0, 1),
            x.write(4, 0, 1), x.write(-1, 0, 1), x.write(2, 0, 1)}, 0, -7, -7, -7, -2, -2, -6);
        due("row stays behind -3", x.row(0, 1, -1), -3);
        due("its numbers stay", x.write(0, 59, 1), 0);
        long[] beyond = {256, 65536, 1L << 32, 0};
        for (int width = 0; width < 4; width++) {
            x.row(0, width, 3);
            x.write(0, 2, 4 + beyond[width]);
            due("cut to WIDTH " + width, x.may(0, 0), 32);
            x.write(0, 2, 4 + 2 * beyond[width] + (beyond[width] == 0 ? 1L << 40 : beyond[width] / 2));
            due("not cut below WIDTH " + width, x.may(0, 0), -2);
        }
        x.row(0, 0, 3);
        due("all 0", x.may(0, 0), 0);
        x.row(1, 0, 3);
        x.write(1, 0, 9);
        x.write(1, 1, 9);
        due("no such FIELD", x.may(1, 0), -2);
        x.row(1, 2, 3);
        due("all 0 again", x.may(1, 0), 0);
    }

    /** Promise 73. */
    private static void pasting() {
        RookHusting x = Check.told(HEAD + "field corn 0 rooks 4; field corn 0 rooks 5;");
        x.row(0, 1, 6);
        x.row(1, 1, 3);
        x.row(2, 2, 3);
        x.write(0, 2, 4);
        x.write(0, 3, 1);
        x.write(0, 5, 5);
        due("paste", x.paste(0, 3, 1, 0, 3), 0);
        due("pasted", x.may(1, 0), 32);
        x.write(1, 2, 6);
        due("the first one stays", x.may(0, 0), 32);
        due("not pasted twice", x.may(1, 0), 0);
        all("wrong", new int[] {x.paste(4, 0, 0, 0, 0), x.paste(0, 0, -1, 0, 0), x.paste(3, 0, 0, 0, 0),
            x.paste(0, 0, 3, 0, 0), x.paste(0, 0, 2, 0, 1)}, -2, -2, -6, -6, -8);
        all("beyond", new int[] {x.paste(0, 4, 1, 0, 3), x.paste(0, 0, 1, 1, 3), x.paste(0, -1, 1, 0, 1),
            x.paste(0, 0, 1, -1, 1), x.paste(0, 0, 1, 0, -1), x.paste(0, Integer.MAX_VALUE, 1, 0, 1)},
                -7, -7, -7, -7, -7, -7);
        all("order", new int[] {x.paste(0, -1, 2, 0, 1), x.paste(3, -1, 4, 0, 1), x.paste(0, -1, 3, 0, 1)}, -8, -2, -6);
        due("none at the end", x.paste(0, 6, 1, 3, 0), 0);
        // 0 0 4 1 0 5 onto itself, one on: 0 0 0 4 1 0, as they were
        due("onto itself", x.paste(0, 0, 0, 1, 5), 0);
        due("overlapped", x.may(0, 0), -2);
        due("back again", x.paste(0, 1, 0, 0, 5), 0);
        // 0 0 4 1 0 0
        x.write(0, 5, 5);
        due("as they were", x.may(0, 0), 32);
    }

    /** Promises 6 to 67 without a HUNDRED. */
    private static void withoutHundred() {
        RookHusting x = new RookHusting();
        x.row(0, 0, 0);
        all("no HUNDRED", new int[] {x.field(0, 0), x.hedges(0), x.man(0, 0), x.hats(0), x.wants(0, 0), x.votes(0, 0, 0),
            x.elects(0, 0), x.elected(0), x.stands(0), x.where(0), x.over(0, 1), x.beats(), x.rings(), x.least(0), x.gains(0),
            x.plain(), x.power(0, 0), x.fear(0, 0), x.rooks(0, 0), x.corn(0, 0), x.eaten(0, 0), x.flies(0, 0), x.all(0),
            x.black(0), x.shoulder(0), x.bare(0), x.kept(), x.worst(), x.loved(0), x.shunned(0), x.swings(), x.tired(0),
            x.guards(), x.eats(0), x.quiet(0), x.peace(), x.bold(0), x.most(0), x.flown(0), x.richest(0), x.best(), x.put(0),
            x.ways(), x.fewest(), x.by(0), x.law(), x.speech(), x.gap(), x.may(0, 0), x.ask(0, 0), x.leaves(0, 0),
            x.rests(0, 1), (int) x.chance(0, 0, 0, 0), (int) x.mean(0, 0), x.puts(0, -1), x.speaks(0, 0), x.undo(), x.anew(),
            x.drawn(0, 0), x.luck(0, 1, 0), x.rate(0, 0)}, repeat(-2, 61));
        due("no HUNDRED gets", x.gets(0, 1, 0, 0), -1000);
    }

    private static int[] repeat(int value, int times) {
        int[] row = new int[times];
        java.util.Arrays.fill(row, value);
        return row;
    }
}
