/**
 * Each argument of each call from within its bounds and from beyond them: one less, one more, the least and the greatest int, and
 * numbers that would be within by a wrap-around of bits, bytes or shifts. The bounds and answers are the document's.
 */
public final class RefusalsTest {
    private static final long[] STEPS = {1, 2, 31, 32, 33, 64, 256, 65536};
    /** 3 FIELDS, 3 MEN, 4 VOTERS, days 4. */
    private static final String SMALL = "hundred days 4 law 0 odds 3;field corn 50 rooks 10;field corn 30 rooks 4;"
            + "field corn 20 rooks 0;hedge 0 1;hedge 1 2;man frights 6 tires 2;man frights 3 tires 0;man frights 9 tires 5;"
            + "voter hats 3 0 1 2;voter hats 2 1 2 0;voter hats 2 2 0 1;voter hats 1 2 1 0;";
    /** 5 FIELDS, 5 MEN, 7 VOTERS, days 16. */
    private static final String FULL = "hundred days 16 law 3 odds 7;" + "field corn 300 rooks 40;".repeat(5)
            + "hedge 0 1;hedge 1 2;hedge 2 3;hedge 3 4;hedge 4 0;hedge 0 2;hedge 1 3;hedge 2 4;"
            + "man frights 40 tires 9;".repeat(5) + "voter hats 9 4 3 2 1 0;".repeat(7);
    /** What there is ahead of each call, so that nothing but the argument is wrong. */
    private static final String AHEAD = "row(0, 1, 6) row(1, 1, 6) row(2, 1, 6) row(3, 1, 6) image(0) image(1) image(2)";

    private final String text;
    private final int fields;
    private final int men;
    private final int voters;
    private final int days;

    private RefusalsTest(String text, int fields, int men, int voters, int days) {
        this.text = text;
        this.fields = fields - 1;
        this.men = men - 1;
        this.voters = voters - 1;
        this.days = days;
    }

    public static void main(String[] args) {
        new RefusalsTest(SMALL, 3, 3, 4, 4).all();
        new RefusalsTest(FULL, 5, 5, 7, 16).all();
        Check.finish();
    }

    private void all() {
        askTold();
        askElections();
        askDays();
        askPlans();
        askChances();
        askActs();
        askStores();
        askWithoutHundred();
    }

    /** An argument (from 0) of a call that has answers from its lowest to its highest, and what it answers beyond them. */
    private void bounds(String promise, String call, int argument, long lowest, long highest, long refused) {
        bounds(promise, call, argument, lowest, highest, refused, refused);
    }

    private void bounds(String promise, String call, int argument, long lowest, long highest, long below, long above) {
        String label = promise + ", argument " + argument;
        within(label, with(call, argument, lowest), below, above);
        within(label, with(call, argument, highest), below, above);
        for (long step : STEPS) {
            refused(label, with(call, argument, lowest - step), below);
            refused(label, with(call, argument, highest + step), above);
        }
        refused(label, with(call, argument, Integer.MIN_VALUE), below);
        refused(label, with(call, argument, Integer.MIN_VALUE + Math.max(0, lowest)), below);
        refused(label, with(call, argument, Integer.MAX_VALUE), above);
    }

    private static String with(String call, int argument, long number) {
        int open = call.indexOf('(');
        String[] numbers = call.substring(open + 1, call.length() - 1).split(", ");
        numbers[argument] = Long.toString(number);
        return call.substring(0, open + 1) + String.join(", ", numbers) + ")";
    }

    private void within(String label, String call, long below, long above) {
        long got = Run.told(label, text).after(AHEAD).ask(call);
        Check.that(label + ": " + call + " is not refused: " + got, got != below && got != above);
    }

    private void refused(String label, String call, long want) {
        Run.told(label, text).after(AHEAD).due(call, want);
    }

    private void askTold() {
        bounds("Promise 6", "field(0, 0)", 0, 0, fields, -2);
        bounds("Promise 6", "field(0, 0)", 1, 0, 1, -2);
        bounds("Promise 7", "hedges(0)", 0, 0, fields, -2);
        bounds("Promise 8", "man(0, 0)", 0, 0, men, -2);
        bounds("Promise 8", "man(0, 0)", 1, 0, 1, -2);
        bounds("Promise 9", "hats(0)", 0, 0, voters, -2);
        bounds("Promise 10", "wants(0, 0)", 0, 0, voters, -2);
        bounds("Promise 10", "wants(0, 0)", 1, 0, men, -1);
        bounds("Promise 68", "count(0)", 0, 0, 10, -1);
    }

    private void askElections() {
        int set = (2 << men) - 1;
        bounds("Promise 11", "votes(" + set + ", 0, 0)", 0, 1, set, -2);
        bounds("Promise 11", "votes(" + set + ", 0, 0)", 1, 0, 3, -2);
        bounds("Promise 11", "votes(" + set + ", 0, 0)", 2, 0, men, -2);
        bounds("Promise 12", "elects(" + set + ", 0)", 0, 0, set, -2);
        bounds("Promise 12", "elects(" + set + ", 0)", 1, 0, 3, -2);
        bounds("Promise 13", "elected(0)", 0, 0, fields, -2);
        bounds("Promise 14", "stands(0)", 0, 0, fields, -2);
        bounds("Promise 15", "where(0)", 0, 0, men, -2);
        bounds("Promise 16", "over(1, 0)", 0, 1, men, -2);
        bounds("Promise 16", "over(0, 1)", 1, 1, men, -2);
        bounds("Promise 19", "least(0)", 0, 0, men, -2);
        bounds("Promise 20", "gains(0)", 0, 0, voters, -2);
        bounds("Promise 22", "power(0, 0)", 0, 0, voters, -2);
        bounds("Promise 22", "power(0, 0)", 1, 0, 1, -2);
        bounds("Promise 34", "loved(0)", 0, 0, men, -2);
        bounds("Promise 35", "shunned(0)", 0, 0, men, -2);
        bounds("Promise 37", "tired(0)", 0, 0, men, -2);
    }

    private void askDays() {
        String[] any = {"fear", "rooks", "corn"};
        for (int i = 0; i < any.length; i++) {
            bounds("Promise " + (23 + i), any[i] + "(0, 0)", 0, 0, fields, -2);
            bounds("Promise " + (23 + i), any[i] + "(0, 0)", 1, 0, days, -2);
        }
        String[] ahead = {"eaten", "flies"};
        for (int i = 0; i < ahead.length; i++) {
            bounds("Promise " + (26 + i), ahead[i] + "(0, 0)", 0, 0, fields, -2);
            bounds("Promise " + (26 + i), ahead[i] + "(0, 0)", 1, 0, days - 1, -2);
        }
        bounds("Promise 28", "all(0)", 0, 0, days, -2);
        bounds("Promise 29", "black(0)", 0, 0, days, -2);
        bounds("Promise 30", "shoulder(0)", 0, 0, fields, -2);
        bounds("Promise 31", "bare(0)", 0, 0, fields, -2);
        bounds("Promise 39", "eats(0)", 0, 0, fields, -2);
        bounds("Promise 40", "quiet(0)", 0, 0, days - 1, -2);
        bounds("Promise 42", "bold(0)", 0, 0, fields, -2);
        bounds("Promise 43", "most(0)", 0, 0, fields, -2);
        bounds("Promise 44", "flown(0)", 0, 0, days - 1, -2);
        bounds("Promise 45", "richest(0)", 0, 0, days, -2);
    }

    private void askPlans() {
        bounds("Promise 47", "put(0)", 0, 0, fields, -2);
        bounds("Promise 50", "by(0)", 0, 0, 3, -2);
        String[] seen = {"may", "ask", "leaves"};
        for (int i = 0; i < seen.length; i++) {
            bounds("Promise " + (54 + i), seen[i] + "(0, 0)", 0, 0, 3, -2);
            bounds("Promise " + (54 + i), seen[i] + "(0, 0)", 1, 0, fields, -2);
        }
        bounds("Promise 57", "rests(1, 0)", 0, 1, fields, -2);
        bounds("Promise 57", "rests(0, 1)", 1, 1, fields, -2);
        bounds("Promise 58", "gets(1, 0, 0, 0)", 0, 1, fields, -1000);
        bounds("Promise 58", "gets(0, 1, 0, 0)", 1, 1, fields, -1000);
        bounds("Promise 58", "gets(0, 1, 0, 0)", 2, 0, 1, -1000);
        bounds("Promise 58", "gets(0, 1, 0, 0)", 3, 0, 1, -1000);
    }

    private void askChances() {
        int last = Math.min(7, days - 1);
        bounds("Promise 59", "chance(0, 0, 0, 0)", 0, 0, fields, -2);
        bounds("Promise 59", "chance(0, 0, 0, 0)", 1, 0, last, -2);
        bounds("Promise 59", "chance(0, 0, 0, 0)", 2, 0, 300, -2);
        bounds("Promise 59", "chance(0, 0, 0, 0)", 3, 0, 1, -2);
        bounds("Promise 60", "mean(0, 0)", 0, 0, last, -2);
        bounds("Promise 60", "mean(0, 0)", 1, 0, 1, -2);
        bounds("Promise 65", "drawn(0, 0)", 0, 0, 2000000000, -2);
        bounds("Promise 65", "drawn(0, 0)", 1, 0, 1, -2);
        bounds("Promise 66", "luck(0, 1, 0)", 0, 0, 2000000000, -2);
        bounds("Promise 66", "luck(0, 1, 0)", 1, 1, 20, -2);
        bounds("Promise 66", "luck(0, 1, 0)", 2, 0, fields, -2);
    }

    private void askActs() {
        bounds("Promise 61", "puts(0, 0)", 0, 0, fields, -2);
        bounds("Promise 61", "puts(0, 0)", 1, -1, men, -2);
        bounds("Promise 62", "speaks(0, 0)", 0, 0, fields, -2);
        bounds("Promise 62", "speaks(0, 0)", 1, 0, days - 1, -2);
        bounds("Promise 67", "rate(0, 0)", 0, 0, men, -2);
        bounds("Promise 67", "rate(0, 0)", 1, 0, 40, -2);
    }

    private void askStores() {
        bounds("Promise 3", "end(0)", 0, 0, 0, -1);
        bounds("Promise 69", "image(0)", 0, 0, 2, -2);
        bounds("Promise 70", "back(0)", 0, 0, 2, -2);
        bounds("Promise 71", "row(0, 0, 0)", 0, 0, 3, -2);
        bounds("Promise 71", "row(0, 0, 0)", 1, 0, 3, -2);
        bounds("Promise 71", "row(0, 0, 0)", 2, 0, 60, -3, -2);
        bounds("Promise 72", "write(0, 0, 0)", 0, 0, 3, -2);
        bounds("Promise 72", "write(0, 0, 0)", 1, 0, 5, -7);
        bounds("Promise 73", "paste(0, 0, 1, 0, 2)", 0, 0, 3, -2);
        bounds("Promise 73", "paste(0, 0, 1, 0, 2)", 1, 0, 4, -7);
        bounds("Promise 73", "paste(0, 0, 1, 0, 2)", 2, 0, 3, -2);
        bounds("Promise 73", "paste(0, 0, 1, 0, 2)", 3, 0, 4, -7);
        bounds("Promise 73", "paste(0, 0, 1, 0, 2)", 4, 0, 6, -7);
    }

    /** What is right with a HUNDRED is refused without one. */
    private static void askWithoutHundred() {
        String calls = "field(0, 0) hedges(0) man(0, 0) hats(0) wants(0, 0) votes(1, 0, 0) elects(0, 0) elects(1, 0) elected(0)"
                + "stands(0) where(0) over(0, 1) beats() rings() least(0) gains(0) plain() power(0, 0) fear(0, 0) rooks(0, 0)"
                + "corn(0, 0) eaten(0, 0) flies(0, 0) all(0) black(0) shoulder(0) bare(0) kept() worst() loved(0) shunned(0)"
                + "swings() tired(0) guards() eats(0) quiet(0) peace() bold(0) most(0) flown(0) richest(0) best() put(0) ways()"
                + "fewest() by(0) law() speech() gap() may(0, 0) ask(0, 0) leaves(0, 0) rests(0, 1) chance(0, 0, 0, 0) mean(0, 0)"
                + "puts(0, 0) puts(0, -1) speaks(0, 0) undo() anew() drawn(0, 0) drawn(0, 1) luck(0, 1, 0) rate(0, 0)";
        new Run("Promises 6 to 67: a new object has no HUNDRED").after("row(0, 1, 6)").each(-2, calls)
                .due("gets(0, 1, 0, 0)", -1000);
        Run.told("Promises 6 to 67: an empty TAPE took the HUNDRED away", SMALL).after("speaks(0, 0) row(0, 1, 6) best() plain()")
                .due("hundred()", 0).each(-2, calls).due("gets(0, 1, 0, 0)", -1000);
        new Run("Promises 6 to 67: back to no HUNDRED").after("image(0)").feed(SMALL).due("hundred()", 13)
                .after("row(0, 1, 6) best() plain() back(0)").each(-2, calls).due("gets(0, 1, 0, 0)", -1000);
    }
}
