/** The edges of Terms II, III and VII and of promises 11 to 22 and 34 to 36: sets, LAWS, likes, nobody and all. */
public final class ElectionBoundsTest {
    private static final String MAN = "man frights 1 tires 1;";
    private static final String FIELD = "field corn 1 rooks 0;";

    private ElectionBoundsTest() { }

    public static void main(String[] args) {
        lawZero();
        lawOne();
        lawTwo();
        lawThree();
        noVoters();
        noMen();
        fullElection();
        sets();
        fieldByField();
        over();
        beats();
        rings();
        least();
        gains();
        gainsByAnyRow();
        plain();
        power();
        lovedAndShunned();
        swings();
        Check.finish();
    }

    private static String head(int law) {
        return "hundred days 1 law " + law + " odds 0;";
    }

    private static void lawZero() {
        // 0 has 1 hat, 1 and 2 have 2 each
        Run.told("Promise 12, LAW 0: the first of several", head(0) + MAN.repeat(3) + "voter hats 2 1;voter hats 2 2;voter hats 1 0;")
                .due("votes(7, 0, 0) votes(7, 0, 1) votes(7, 0, 2) elects(7, 0)", 1, 2, 2, 1)
                .due("elects(6, 0) elects(5, 0) elects(3, 0) elects(4, 0)", 1, 2, 1, 2);
        Run.told("Promise 11, LAW 0: the first of the set in his ROW", head(0) + MAN.repeat(3) + "voter hats 3 0 2 1;")
                .due("votes(7, 0, 0) votes(7, 0, 2) votes(6, 0, 2) votes(6, 0, 1) votes(2, 0, 1)", 3, 0, 3, 0, 3);
        Run.told("Promise 11, LAW 0: none of the set in his ROW", head(0) + MAN.repeat(3) + "voter hats 3 0;voter hats 9;")
                .due("votes(7, 0, 0) votes(6, 0, 1) votes(6, 0, 2) elects(6, 0)", 3, 0, 0, 1);
    }

    private static void lawOne() {
        // ROW 2 0: behind 2 are 0 and those not in it, 1 and 3
        Run.told("Promise 11, LAW 1: behind that one, or not in it", head(1) + MAN.repeat(4) + "voter hats 2 2 0;")
                .due("votes(15, 1, 2) votes(15, 1, 0) votes(15, 1, 1) votes(15, 1, 3)", 6, 4, 0, 0)
                .due("votes(7, 1, 2) votes(7, 1, 0) votes(11, 1, 0) votes(9, 1, 0) votes(9, 1, 3) votes(1, 1, 0)",
                        4, 2, 4, 2, 0, 0);
        Run.told("Promise 11, LAW 1: the last of a whole ROW", head(1) + MAN.repeat(2) + "voter hats 9 1 0;")
                .due("votes(3, 1, 1) votes(3, 1, 0) elects(3, 1) elects(1, 1)", 9, 0, 1, 0);
        // each has 1 times 1 and 1 times 0
        Run.told("Promise 12, LAW 1: the first of several", head(1) + MAN.repeat(3) + "voter hats 1 2 1;voter hats 1 1 2;")
                .due("votes(6, 1, 1) votes(6, 1, 2) elects(6, 1) elects(7, 1)", 1, 1, 1, 1);
    }

    private static void lawTwo() {
        // 0 and 1 have fewest: 1 is the last of them, his hats go to 0; were 0 taken out, 2 would be elected
        Run.told("Promise 12, LAW 2: the last of several who have fewest",
                head(2) + MAN.repeat(3) + "voter hats 2 0 2;voter hats 2 1 0;voter hats 3 2;")
                .due("votes(7, 2, 0) votes(7, 2, 1) votes(7, 2, 2) elects(7, 2)", 2, 2, 3, 0);
        Run.told("Promise 12, LAW 2: of two alike the last is taken out", head(2) + MAN.repeat(2) + "voter hats 1 0;voter hats 1 1;")
                .due("elects(3, 2)", 0);
        // of 5 4 3 2 1 hats 4 goes, of 5 4 3 3 3 goes, of 5 4 6 1 goes, of 5 and 10 0 goes
        Run.told("Promise 12, LAW 2: again and again, till one is left", head(2) + MAN.repeat(5)
                + "voter hats 5 0;voter hats 4 1 2;voter hats 3 2;voter hats 2 3 2;voter hats 1 4 3 2;")
                .due("votes(31, 2, 0) votes(31, 2, 3) votes(31, 2, 4) elects(31, 2)", 5, 2, 1, 2)
                .due("elects(27, 2) elects(16, 2) elects(24, 2) elects(0, 2)", 0, 4, 3, -1);
    }

    private static void lawThree() {
        Run.told("Promise 11, LAW 3: the first two of the set (one, if there is one)",
                head(3) + MAN.repeat(4) + "voter hats 3 3 1 0 2;voter hats 2 0;voter hats 9;")
                .due("votes(15, 3, 3) votes(15, 3, 1) votes(15, 3, 0) votes(15, 3, 2)", 3, 3, 2, 0)
                .due("votes(5, 3, 0) votes(5, 3, 2) votes(13, 3, 2) votes(13, 3, 0) votes(4, 3, 2)", 5, 3, 0, 5, 3)
                .due("elects(15, 3) elects(12, 3) elects(13, 3)", 1, 2, 0);
    }

    private static void noVoters() {
        Run.told("Promise 12: no VOTERS, all are alike", head(0) + MAN.repeat(5))
                .due("elects(31, 0) elects(31, 1) elects(31, 2) elects(31, 3)", 0, 0, 0, 0)
                .due("elects(30, 0) elects(28, 1) elects(24, 2) elects(16, 3)", 1, 2, 3, 4)
                .due("votes(31, 0, 4) votes(31, 1, 4) votes(31, 2, 4) votes(31, 3, 4)", 0, 0, 0, 0)
                .due("over(0, 4) beats() rings() least(0) least(4) plain() swings() loved(0) shunned(0) gains(0)",
                        0, -1, 0, 0, -1, 0, 0, 0, 0, -2)
                .due("hats(0) power(0, 0) wants(0, 0)", -2, -2, -2);
    }

    private static void noMen() {
        Run.told("Promise 12: no MEN, nobody is elected", head(2) + FIELD + "voter hats 4;voter hats 1;")
                .due("elects(0, 0) elects(0, 1) elects(0, 2) elects(0, 3) elects(1, 0) elects(-1, 0)", -1, -1, -1, -1, -2, -2)
                .due("votes(0, 0, 0) votes(1, 0, 0) elected(0) stands(0) where(0)", -2, -2, -1, -1, -2)
                .due("beats() rings() least(0) gains(0) gains(1) plain() swings()", -1, 0, -2, 0, 0, 0, 0)
                .due("power(0, 0) power(0, 1) loved(0) over(0, 1) guards()", 1, 1, -2, -2, 0);
    }

    private static void fullElection() {
        String men = MAN.repeat(5);
        Run.told("Promise 11: as many hats as there can be", head(1) + FIELD + men + "voter hats 9 4 3 2 1 0;".repeat(7))
                .due("votes(31, 0, 4) votes(31, 1, 4) votes(31, 1, 3) votes(31, 1, 0) votes(31, 2, 4) votes(31, 3, 3)",
                        63, 252, 189, 0, 63, 63)
                .due("over(4, 0) over(0, 4) loved(4) shunned(4) beats() elected(0) least(4) least(0)",
                        63, 0, 63, 0, 4, 4, 0, 63)
                .due("power(6, 0) power(6, 1) swings() plain()", 1, 7, 0, 0);
    }

    private static void sets() {
        Run x = Run.told("Promises 11, 12: sets of MEN", head(0) + MAN.repeat(2) + "voter hats 2 1;");
        x.due("elects(0, 0) elects(1, 0) elects(2, 0) elects(3, 0)", -1, 0, 1, 1);
        x.each(-2, "elects(4, 0) elects(7, 0) elects(-1, 0) elects(MIN, 0) elects(MAX, 0) elects(32, 0)");
        x.each(-2, "elects(3, 4) elects(3, -1) elects(0, 4) elects(3, MAX) elects(3, MIN)");
        x.due("votes(3, 0, 1) votes(2, 0, 1) votes(1, 0, 0)", 2, 2, 0);
        x.each(-2, "votes(0, 0, 0) votes(1, 0, 1) votes(2, 0, 0) votes(4, 0, 2) votes(5, 0, 0) votes(-1, 0, 0) votes(3, 0, 2)");
        x.each(-2, "votes(3, 0, -1) votes(3, 0, 32) votes(3, 0, 33) votes(3, 4, 0) votes(3, -1, 0) votes(MIN, 0, 0)");
    }

    private static void fieldByField() {
        Run.told("Promise 13: an ELECTION of those who are not elected", head(0) + FIELD.repeat(5) + MAN.repeat(3)
                + "voter hats 1 2 0;voter hats 1 2 1;voter hats 1 1;")
                .due("elected(0) elected(1) elected(2) elected(3) elected(4)", 2, 1, 0, -1, -1)
                .due("stands(0) stands(3) where(0) where(1) where(2) guards()", 2, -1, 2, 1, 0, 7);
        Run.told("Promise 15: in none", head(0) + FIELD + MAN.repeat(2) + "voter hats 1 1;")
                .due("where(0) where(1) where(2) guards()", -1, 0, -2, 2);
        Run.told("Promises 13 to 15: no FIELDS", head(0) + MAN)
                .due("elected(0) stands(0) where(0) where(1) where(-1) guards()", -2, -2, -1, -2, -2, 0);
        // by LAW 2 of 0, 1, 2: 0 goes, 1 has 3; of 0, 2: 0 has 2 + 2
        Run.told("Promise 13: by the LAW told", head(2) + FIELD.repeat(3) + MAN.repeat(3)
                + "voter hats 2 1 0;voter hats 1 0 1;voter hats 2 2;")
                .due("elected(0) elected(1) elected(2)", 1, 0, 2);
        Run.told("Promise 13: acts aside", head(0) + FIELD.repeat(2) + MAN.repeat(2))
                .after("puts(0, 1) puts(1, 0)").due("elected(0) elected(1) stands(0) stands(1)", 0, 1, 1, 0)
                .after("puts(1, -1)").due("elected(1) stands(1)", 1, -1);
    }

    private static void over() {
        Run.told("Promise 16: ahead in their ROWS, or in them alone", head(0) + MAN.repeat(3)
                + "voter hats 1 0 1;voter hats 2 1 0;voter hats 4 0;voter hats 9 2;voter hats 8;")
                .due("over(0, 1) over(1, 0) over(0, 2) over(2, 0) over(1, 2) over(2, 1)", 5, 2, 7, 9, 3, 9)
                .each(-2, "over(0, 0) over(2, 2) over(0, 3) over(3, 0) over(3, 3) over(-1, 0) over(0, -1) over(-1, -1)");
        Run.told("Promise 16: one man", head(0) + MAN).each(-2, "over(0, 0) over(0, 1) over(1, 0)");
    }

    private static void beats() {
        Run.told("Promise 17: more, not as many", head(0) + MAN.repeat(3) + "voter hats 2 0 1 2;voter hats 2 1 0 2;")
                .due("over(0, 1) over(1, 0) beats()", 2, 2, -1);
        Run.told("Promise 17: over each other one", head(0) + MAN.repeat(3) + "voter hats 2 2 1;voter hats 1 0;")
                .due("beats()", 2);
        Run.told("Promise 17: over all but one", head(0) + MAN.repeat(3) + "voter hats 2 2 1;voter hats 1 0;voter hats 1 0;")
                .due("over(2, 0) over(0, 2) over(2, 1) beats()", 2, 2, 2, -1);
        Run.told("Promise 17: one man, no other one", head(0) + MAN).due("beats()", 0);
        Run.told("Promise 17: no man", head(0)).due("beats()", -1);
    }

    private static void rings() {
        String all = "voter hats 1 0 1 2 3 4;voter hats 1 1 2 3 4 0;voter hats 1 2 3 4 0 1;voter hats 1 3 4 0 1 2;"
                + "voter hats 1 4 0 1 2 3;";
        // each of five is over the two behind him: of ten sets of three five have one who is over both others
        Run.told("Promise 18: RINGS of five MEN", head(0) + MAN.repeat(5) + all).due("rings() beats()", 5, -1);
        Run.told("Promises 17, 18: five MEN, seven VOTERS", head(0) + MAN.repeat(5) + all + "voter hats 9;".repeat(2))
                .due("rings() beats() swings() over(4, 0) over(0, 4)", 5, -1, 1, 4, 1);
        Run.told("Promise 18: a RING one way", head(0) + MAN.repeat(3) + "voter hats 1 0 1 2;voter hats 1 1 2 0;voter hats 1 2 0 1;")
                .due("rings()", 1);
        Run.told("Promise 18: a RING the other way", head(0) + MAN.repeat(3)
                + "voter hats 1 0 2 1;voter hats 1 2 1 0;voter hats 1 1 0 2;").due("rings()", 1);
        // over(0, 1) and over(1, 2) are more, 0 and 2 are alike
        Run.told("Promise 18: as many is neither more nor fewer", head(0) + MAN.repeat(3) + "voter hats 1 0 1 2;voter hats 1 2 0 1;"
                + "voter hats 1 1 2;voter hats 1 0;").due("over(0, 2) over(2, 0) rings()", 2, 2, 0);
        Run.told("Promise 18: two MEN", head(0) + MAN.repeat(2) + "voter hats 1 0;voter hats 1 1;").due("rings()", 0);
    }

    private static void least() {
        Run x = Run.told("Promise 19: the fewest hats, together", head(0) + MAN.repeat(4)
                + "voter hats 4 0;voter hats 3 1;voter hats 2 1;voter hats 2 2;");
        // now 1 has 5; without 2 of them 0 has more; 2 would be behind 0 or 1 with as many, so all of theirs stay away
        x.due("elects(15, 0) least(1) least(0) least(2)", 1, 0, 2, 9);
        x.due("least(3) least(4) least(-1) least(32)", -1, -2, -2, -2);
        Run.told("Promise 19: all stay away", head(0) + MAN.repeat(2) + "voter hats 9 1;".repeat(7))
                .due("least(1) least(0)", 0, 63);
        Run.told("Promise 19: by the LAW told", head(2) + MAN.repeat(3) + "voter hats 4 0;voter hats 3 1;voter hats 2 2 1;")
                .due("elects(7, 2) least(1) least(0) least(2)", 1, 0, 2, 7);
    }

    private static void gains() {
        // LAW 0: 0 has 2, 1 has 1, 2 has 2: 0 is elected; the last VOTER can get 2 elected
        String rest = head(0) + MAN.repeat(3) + "voter hats 2 0;voter hats 2 2;";
        Run.told("Promise 20: ahead there", rest + "voter hats 1 1 2 0;").due("gains(2) plain()", 1, 4);
        Run.told("Promise 20: there alone", rest + "voter hats 1 1 2;").due("gains(2) plain()", 1, 4);
        Run.told("Promise 20: behind there", rest + "voter hats 1 1 0 2;").due("gains(2) plain()", 0, 0);
        Run.told("Promise 20: neither is there", rest + "voter hats 1 1;").due("gains(2)", 0);
        Run.told("Promise 20: an empty ROW wants nobody", rest + "voter hats 1;").due("gains(2)", 0);
        Run.told("Promise 20: who has what he wants", rest + "voter hats 1 0 2;").due("elects(7, 0) gains(0) gains(1) gains(2)",
                0, 0, 0, 0);
        Run.told("Promise 20: whether there are FIELDS or not", rest + "voter hats 1 1 2;" + FIELD.repeat(3))
                .due("gains(2) plain()", 1, 4).after("puts(0, 2)").due("gains(2)", 1);
        Run.told("Promise 20: there is none such", rest + "voter hats 1 1 2;")
                .due("gains(3) gains(-1) gains(32) gains(34) gains(MIN)", -2, -2, -2, -2, -2);
        Run.told("Promise 20: one man", head(0) + MAN + "voter hats 1;voter hats 1 0;").due("gains(0) gains(1)", 0, 0);
    }

    private static void gainsByAnyRow() {
        // LAW 3: 0 and 1 have 2 hats each; without his second want 0 has 1
        Run.told("Promise 20: by a ROW of fewer MEN", head(3) + MAN.repeat(2) + "voter hats 1 1 0;voter hats 1 0;voter hats 1 1;")
                .due("elects(3, 3) gains(0) gains(1) gains(2) plain()", 0, 1, 0, 0, 1);
        // LAW 2: of 2, 4, 2 hats 2 goes, then 0 and 1 are alike and 1 goes; if the last VOTER says 2, 0 goes, and his go to 1
        Run.told("Promise 20: by a ROW with one whom he does not want", head(2) + MAN.repeat(3)
                + "voter hats 2 0 1;voter hats 2 2 0;voter hats 3 1;voter hats 1 1;")
                .due("elects(7, 2) gains(0) gains(1) gains(2) gains(3) plain()", 0, 0, 0, 0, 1, 8);
        // LAW 0: of 2, 3, 1 hats 1 is elected; with a hat more 0 is the first of two
        Run.told("Promise 20: by a ROW with man 0", head(0) + MAN.repeat(3) + "voter hats 2 0;voter hats 3 1;voter hats 1 2 0 1;")
                .due("elects(7, 0) gains(2) plain()", 1, 1, 4);
        // LAW 2, by ROWS as told: 0, 4, 1, 3 go; if the first says 4, 3, then 0, 2, 4, 1 go; if 4 alone, 3 goes ahead of 1
        Run.told("Promise 20: by a ROW of two", head(2) + MAN.repeat(5)
                + "voter hats 1 3 4 2 1;voter hats 2 3 4 1 2 0;voter hats 1 4 2;voter hats 1 1 0 2 3 4;voter hats 1 2 0 1 4;")
                .due("elects(31, 2) gains(0)", 2, 1);
        // LAW 0: who is elected has 2 hats more, and he has 1
        Run.told("Promise 20: by none", head(0) + MAN.repeat(3) + "voter hats 3 0;voter hats 1 1 2;voter hats 1 2 1;")
                .due("gains(1) gains(2) plain()", 0, 0, 0);
    }

    private static void plain() {
        Run.told("Promise 21: no VOTERS", head(1) + MAN.repeat(2)).due("plain()", 0);
        // 0 and 1 have 3, 2 has 2: with one hat more 2 would be the last of three alike
        Run.told("Promise 21: who is as wanted as the first is not elected", head(0) + MAN.repeat(3)
                + "voter hats 1 0;".repeat(3) + "voter hats 1 1 2;".repeat(2) + "voter hats 2 2;voter hats 1 1 2;")
                .due("elects(7, 0) plain() gains(6) gains(5) gains(0)", 0, 0, 0, 0, 0);
        // 0 has 3 hats, 1 and 2 have 2 each: 1's VOTER can say 2, and 2's can say 1
        Run.told("Promise 21: two of them", head(0) + MAN.repeat(3) + "voter hats 3 0;voter hats 2 1 2;voter hats 2 2 1;")
                .due("elects(7, 0) plain() gains(0) gains(1) gains(2)", 0, 6, 0, 1, 1);
        Run.told("Promise 21: the last VOTER has bit 6", head(0) + MAN.repeat(3)
                + "voter hats 1 0;".repeat(3) + "voter hats 1 2;".repeat(3) + "voter hats 1 1 2;")
                .due("elects(7, 0) plain() gains(6)", 0, 64, 1);
    }

    private static void power() {
        Run.told("Promise 22: one VOTER", head(0) + "voter hats 1;")
                .due("power(0, 0) power(0, 1) power(1, 0) power(-1, 0) power(0, 2) power(0, -1)", 1, 1, -2, -2, -2, -2);
        Run.told("Promise 22: half is not more than half", head(0) + "voter hats 1;voter hats 1;")
                .due("power(0, 0) power(0, 1) power(1, 0) power(1, 1)", 1, 2, 1, 2);
        Run.told("Promise 22: half of four", head(0) + "voter hats 2;voter hats 1;voter hats 1;")
                .due("power(0, 0) power(0, 1) power(1, 0) power(1, 1) power(2, 0) power(2, 1)", 2, 3, 1, 6, 1, 6);
        Run.told("Promise 22: more than half by one hat: 0 / 1", head(0) + "voter hats 2;voter hats 1;")
                .due("power(0, 0) power(0, 1) power(1, 0) power(1, 1)", 1, 1, 0, 1);
        // he decides as the third, fourth or fifth of seven; the others share the rest
        Run.told("Promise 22: seven VOTERS", head(0) + "voter hats 3;" + "voter hats 1;".repeat(6))
                .due("power(0, 0) power(0, 1) power(1, 0) power(1, 1) power(6, 0) power(6, 1) power(7, 0)", 3, 7, 2, 21, 2, 21, -2);
        Run.told("Promise 22: more than half of seven VOTERS' hats", head(0) + "voter hats 9;" + "voter hats 1;".repeat(6))
                .due("power(0, 0) power(0, 1) power(1, 0) power(6, 1)", 1, 1, 0, 1);
        // he decides as the second, third or fourth of five: of 7 hats 4 are more than half
        Run.told("Promise 22: five VOTERS", head(0) + "voter hats 3;" + "voter hats 1;".repeat(4))
                .due("power(0, 0) power(0, 1) power(4, 0) power(4, 1)", 3, 5, 1, 10);
        Run.told("Promise 22: as many hats as there can be", head(0) + "voter hats 9;".repeat(7))
                .due("power(6, 0) power(6, 1)", 1, 7);
    }

    private static void lovedAndShunned() {
        Run.told("Promises 34, 35: the first, not there", head(0) + MAN.repeat(3)
                + "voter hats 1 0 1;voter hats 2 1 0;voter hats 4;voter hats 8 1;")
                .due("loved(0) loved(1) loved(2) shunned(0) shunned(1) shunned(2)", 1, 10, 0, 12, 4, 15)
                .each(-2, "loved(3) loved(-1) loved(32) shunned(3) shunned(-1) shunned(MAX)");
    }

    private static void swings() {
        // 0 has 3, 1 has 3: 0 is elected; without either of his VOTERS 1 is
        Run.told("Promise 36: VOTERS without whom another one is elected", head(0) + MAN.repeat(2)
                + "voter hats 2 0;voter hats 1 0;voter hats 3 1;voter hats 1;").due("elects(3, 0) swings()", 0, 3);
        Run.told("Promise 36: the last VOTER has bit 6", head(0) + MAN.repeat(2) + "voter hats 1;".repeat(6) + "voter hats 1 1;")
                .due("elects(3, 0) swings()", 1, 64);
        Run.told("Promise 36: each alone, not all together", head(0) + MAN.repeat(2) + "voter hats 1 1;".repeat(2))
                .due("swings()", 0);
        Run.told("Promise 36: by the LAW told", head(2) + MAN.repeat(3) + "voter hats 4 0;voter hats 3 1;voter hats 2 2 1;")
                .due("swings()", 6);
        Run.told("Promise 36: no MEN", head(0) + "voter hats 1;").due("swings()", 0);
    }
}
