import java.util.ArrayList;
import java.util.List;
import java.util.function.Supplier;

/**
 * What stays: two objects are told and do the same, one of them gets a call more that is refused (or that asks alone); then all
 * that can be asked of both must be the same, what the SLOTS, the IMAGES and the TAPE have included. And what does not stay: an
 * object that was asked everything, and then changed, answers as one that is asked for the first time.
 */
public final class StaysTest {
    private static final String TOLD = "hundred days 4 law 0 odds 3;field corn 50 rooks 10;field corn 30 rooks 4;"
            + "field corn 20 rooks 0;hedge 0 1;hedge 1 2;man frights 6 tires 2;man frights 3 tires 0;man frights 9 tires 5;"
            + "voter hats 3 0 1;voter hats 2 1 2 0;voter hats 2 2;";
    private static final String OTHER = "hundred days 2 law 1 odds 5;field corn 10 rooks 5;field corn 1 rooks 2;hedge 0 1;"
            + "man frights 2 tires 0;voter hats 4 0;";
    /** 52 bytes. */
    private static final String TAPE = "hundred days 3 law 2 odds 1; field corn 7 rooks 1;  ";
    /** Image 2 has nothing; SLOT 3 has nothing. */
    private static final String SETUP = "rate(0, 8) image(0) puts(0, 1) speaks(0, 2) puts(2, 0) image(1) speaks(1, 1)"
            + "row(0, 0, 3) write(0, 1, 1) write(0, 2, 7) row(1, 1, 6) write(1, 4, 2) write(1, 5, 300) row(2, 0, 3) write(2, 0, 2)";

    private static final String ASKED = "field(0, 0) hedges(0) man(0, 0) hats(0) wants(0, 0) votes(3, 1, 0) elects(3, 2) elected(0)"
            + "stands(0) where(0) over(0, 1) beats() rings() least(1) gains(1) plain() power(0, 0) fear(0, 0) rooks(0, 1) corn(0, 1)"
            + "eaten(0, 1) flies(0, 0) flies(0, 1) all(2) black(1) shoulder(0) bare(0) kept() worst() loved(0) shunned(0) swings()"
            + "tired(0) guards() eats(0) quiet(0) quiet(1) peace() bold(0) bold(1) most(0) flown(0) flown(1) richest(0) best() put(0)"
            + "put(1) ways() fewest() by(0) by(3) law() speech() gap() may(0, 0) ask(0, 0) leaves(0, 0) may(0, 1) rests(0, 1)"
            + "gets(0, 1, 0, 1) gets(0, 1, 1, 1) chance(0, 1, 9, 0) mean(1, 1) mean(0, 0) drawn(7, 0) drawn(7, 1) luck(7, 20, 0)"
            + "count(0) count(7) fault(0) fault(1)";

    private static int compared;

    private StaysTest() { }

    public static void main(String[] args) {
        refusedTexts();
        refusedQuestions();
        refusedActs();
        refusedAtThirtyActs();
        refusedWithoutActs();
        refusedStores();
        refusedByABadText();
        askedAlone();
        askedBehindAChange();
        askedBehindAnotherHundred();
        System.out.println(compared + " pairs of objects");
        Check.finish();
    }

    private static Run begin(String label, String tape) {
        return Run.told(label, TOLD).after(SETUP).feed(tape);
    }

    private static void same(String label, Run with, Run without) {
        compared++;
        List<String> due = new ArrayList<>();
        List<String> got = new ArrayList<>();
        look(without, due);
        look(with, got);
        for (int i = 0; i < due.size(); i++) {
            Check.that(label + " changes nothing: " + got.get(i) + ", due is " + due.get(i), got.get(i).equals(due.get(i)));
        }
    }

    /** A call that answers this and changes nothing. */
    private static void stays(String promise, String call, long want) {
        String label = promise + ": " + call;
        same(label, begin(label, TAPE).due(call, want), begin(label, TAPE));
    }

    private static void look(Run x, List<String> answers) {
        for (int what = 0; what <= 10; what++) {
            ask(x, "count(" + what + ")", answers);
        }
        lookAtHundred(x, answers);
        for (int slot = 0; slot < 4; slot++) {
            ask(x, "may(" + slot + ", 0)", answers);
            for (int n : new int[] {0, 1, 2, 3, 4, 5, 6, 7, 60}) {
                ask(x, "paste(" + slot + ", " + n + ", " + slot + ", " + n + ", 0)", answers);
            }
            for (int other = 0; other < slot; other++) {
                ask(x, "paste(" + slot + ", 0, " + other + ", 0, 0)", answers);
            }
        }
        ask(x, "fault(0)", answers);
        ask(x, "fault(1)", answers);
        ask(x, "hundred()", answers);
        ask(x, "fault(1)", answers);
        lookAtHundred(x, answers);
        for (int k = 0; k < 3; k++) {
            ask(x, "back(" + k + ")", answers);
            lookAtHundred(x, answers);
            for (int i = 0; i < 5; i++) {
                ask(x, "undo()", answers);
                ask(x, "stands(0)", answers);
                ask(x, "fear(0, 3)", answers);
            }
        }
    }

    private static void lookAtHundred(Run x, List<String> answers) {
        for (int field = 0; field < 3; field++) {
            for (String call : new String[] {"field(F, 0)", "field(F, 1)", "hedges(F)", "stands(F)", "fear(F, 1)", "fear(F, 3)",
                "rooks(F, 2)", "corn(F, 2)"}) {
                ask(x, call.replace("F", Integer.toString(field)), answers);
            }
            ask(x, "man(" + field + ", 0)", answers);
            ask(x, "man(" + field + ", 1)", answers);
            ask(x, "wants(" + field + ", 1)", answers);
        }
        ask(x, "all(2)", answers);
    }

    private static void ask(Run x, String call, List<String> answers) {
        answers.add(call + " " + x.ask(call));
    }

    private static void refusedTexts() {
        stays("Promise 3", "end(53)", -1);
        stays("Promise 3", "end(-1)", -1);
        stays("Promise 3", "end(MAX)", -1);
        stays("Promise 5", "fault(2)", -1);
        String label = "Promise 2: a feed that is refused";
        String full = TAPE + " ".repeat(648);
        same(label, begin(label, full).due("feed(1, 2, 3, 4, 5)", -1), begin(label, full));
    }

    private static void refusedQuestions() {
        String beyond = "field(3, 0) field(0, 2) hedges(-1) man(3, 0) man(0, 2) hats(3) wants(3, 0) votes(8, 0, 0) votes(6, 0, 0)"
                + "elects(8, 0) elects(7, 4) elected(3) stands(3) where(3) over(0, 0) over(0, 3) least(3) gains(3) power(3, 0)"
                + "fear(3, 0) fear(0, 5) rooks(0, 5) corn(0, 5) eaten(0, 4) flies(0, 4) all(5) black(5) shoulder(3) bare(3) loved(3)"
                + "shunned(3) tired(3) eats(3) quiet(4) bold(3) most(3) flown(4) richest(5) put(3) by(4) may(4, 0) may(0, 3)"
                + "may(1, 0) ask(4, 0) leaves(0, 3) rests(0, 0) rests(0, 3) chance(3, 0, 0, 0) chance(0, 4, 0, 0) chance(0, 0, 301, 0)"
                + "mean(4, 0) drawn(-1, 0) drawn(0, 2) luck(0, 0, 0) luck(0, 21, 0) luck(0, 1, 3)";
        for (String call : calls(beyond)) {
            stays("Promises 6 to 66", call, -2);
        }
        stays("Promise 10", "wants(0, 2)", -1);
        stays("Promise 54", "may(3, 0)", -6);
        stays("Promise 55", "ask(3, 0)", -6);
        stays("Promise 56", "leaves(3, 0)", -6);
        stays("Promise 58", "gets(0, 0, 0, 0)", -1000);
        stays("Promise 68", "count(11)", -1);
    }

    private static void refusedActs() {
        for (String call : new String[] {"puts(3, 0)", "puts(-1, 0)", "puts(0, 3)", "puts(0, -2)", "speaks(3, 0)", "speaks(0, 4)",
            "speaks(0, -1)", "rate(3, 0)", "rate(0, 41)", "rate(0, -1)"}) {
            stays("Promises 61, 62, 67", call, -2);
        }
        stays("Promise 67", "rate(0, 1)", -5);
        stays("Promise 67", "rate(2, 40)", -5);
    }

    private static void refusedAtThirtyActs() {
        for (String call : new String[] {"puts(0, 2)", "puts(1, -1)", "speaks(0, 3)", "speaks(2, 0)", "rate(0, 1)"}) {
            String label = "Promises 61, 62, 67 at 30 acts: " + call;
            Run with = begin(label, TAPE);
            Run without = begin(label, TAPE);
            for (int acts = 4; acts < 30; acts++) {
                with.after("puts(2, 0)");
                without.after("puts(2, 0)");
            }
            same(label, with.due("count(7)", 30).due(call, -5), without);
        }
    }

    private static void refusedWithoutActs() {
        String label = "Promise 63: undo() without acts";
        same(label, begin(label, TAPE).after("anew()").due("undo()", -5), begin(label, TAPE).after("anew()"));
        label = "Promise 64: anew() without acts";
        same(label, begin(label, TAPE).after("anew()").due("anew()", 0), begin(label, TAPE).after("anew()"));
    }

    private static void refusedStores() {
        for (String call : new String[] {"image(3)", "image(-1)", "back(3)", "back(-1)", "row(4, 0, 1)", "row(-1, 0, 1)",
            "row(0, 4, 1)", "row(0, -1, 1)", "row(0, 0, 61)", "write(4, 0, 1)", "write(-1, 0, 1)", "paste(4, 0, 0, 0, 1)",
            "paste(0, 0, -1, 0, 1)"}) {
            stays("Promises 69 to 73", call, -2);
        }
        stays("Promise 70", "back(2)", -6);
        stays("Promise 71", "row(0, 1, -1)", -3);
        stays("Promise 71", "row(3, 0, -1)", -3);
        stays("Promise 72", "write(3, 0, 1)", -6);
        stays("Promise 72", "write(0, 3, 1)", -7);
        stays("Promise 72", "write(0, -1, 1)", -7);
        stays("Promise 73", "paste(3, 0, 0, 0, 1)", -6);
        stays("Promise 73", "paste(0, 0, 3, 0, 1)", -6);
        stays("Promise 73", "paste(1, 4, 0, 0, 1)", -8);
        stays("Promise 73", "paste(0, 2, 2, 0, 2)", -7);
        stays("Promise 73", "paste(0, 1, 2, 0, -1)", -7);
        stays("Promise 73", "paste(0, 0, 2, 1, 3)", -7);
        stays("Promise 73", "paste(0, -1, 2, 0, 2)", -7);
        stays("Promise 73", "paste(0, 0, 2, -1, 2)", -7);
    }

    /** But for the FAULT, which is of the latest hundred(), all stays. */
    private static void refusedByABadText() {
        for (String bad : new String[] {"x", OTHER + "x", OTHER + "voter hats 0;", OTHER + "field", "field corn 1 rooks 1;"}) {
            String label = "Promise 4: hundred() of '" + bad + "'";
            Run with = begin(label, bad).due("hundred()", -4);
            Run without = begin(label, "x").due("hundred() end(0)", -4, 0).feed(bad);
            with.due("count(9)", bad.length());
            without.due("count(9)", bad.length());
            // the same FAULT for both, as it is told by fault()
            same(label, with.due("hundred()", -4), without.due("hundred()", -4));
        }
    }

    private static void askedAlone() {
        for (String call : calls(ASKED)) {
            String label = "Promises 5 to 66, asked alone: " + call;
            same(label, begin(label, TAPE).after(call), begin(label, TAPE));
        }
    }

    private static void askedBehindAChange() {
        for (String change : new String[] {"puts(0, 2)", "puts(1, -1)", "speaks(0, 1)", "speaks(1, 3)", "undo()", "anew()",
            "rate(0, 1)", "rate(1, 30)", "anew() rate(1, 30)", "back(0)", "back(1)", "hundred()", "end(0) hundred()", "row(0, 0, 0)"}) {
            String label = "Promises 4, 61 to 72, asked behind " + change;
            asForTheFirstTime(label, begin(label, TAPE).after(ASKED).after(change), () -> begin(label, TAPE).after(change));
            String later = label + ", without acts";
            asForTheFirstTime(later, begin(later, TAPE).after("anew()").after(ASKED).after(change),
                    () -> begin(later, TAPE).after("anew()").after(change));
        }
    }

    /** A longer HUNDRED, of more of all, leaves nothing to a shorter one. */
    private static void askedBehindAnotherHundred() {
        String label = "Promise 4: in place of another";
        String longer = "hundred days 16 law 3 odds 7;" + "field corn 300 rooks 40;".repeat(5)
                + "hedge 0 1;hedge 1 2;hedge 2 3;hedge 3 4;hedge 4 0;" + "man frights 9 tires 2;".repeat(5)
                + "voter hats 9 4 3 2 1 0;voter hats 8 0 4;voter hats 2 1 4;";
        for (String text : new String[] {OTHER, TOLD, "hundred days 1 law 0 odds 0;", OTHER + "voter hats 3;",
            "hundred days 2 law 0 odds 9;field corn 9 rooks 9;field corn 9 rooks 0;"}) {
            asForTheFirstTime(label, Run.told(label, longer).after("row(0, 0, 0)").after(ASKED).feed(text).after("hundred()"),
                    () -> Run.told(label, text).after("row(0, 0, 0)"));
        }
    }

    /** Each question has the answer that a fresh object gives which is asked nothing else. */
    private static void asForTheFirstTime(String label, Run worn, Supplier<Run> fresh) {
        for (String call : calls(ASKED)) {
            Check.due(label + ": " + call, worn.ask(call), fresh.get().ask(call));
        }
    }

    private static String[] calls(String written) {
        return written.split("(?<=\\)) ?");
    }
}
