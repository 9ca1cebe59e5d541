/** The edges that promises 1 to 3 and 5 name, each from within and from one beyond. */
public final class TapeBoundsTest {
    /** 28 bytes. */
    private static final String HEAD = "hundred days 4 law 0 odds 0;";
    private static final String JUNK = "feed(1094795585, 1094795585, 1094795585, 1094795585, 1094795585)";
    private static final String ZEROS = "feed(0, 0, 0, 0, 0)";

    private TapeBoundsTest() { }

    public static void main(String[] args) {
        newObject();
        objectsApart();
        feedCounts();
        feedBeyond();
        feedOrder();
        feedHighBytes();
        endBounds();
        endCutsForGood();
        faultBounds();
        faultOfTheLatest();
        lastPromisedCall();
        Check.finish();
    }

    private static void newObject() {
        new Run("Promise 1: No HUNDRED")
                .each(0, "count(0) count(1) count(2) count(3) count(4) count(5) count(6) count(7) count(8)")
                .due("beats() rings() kept() worst() undo() anew() all(0) elects(0, 0)", -2, -2, -2, -2, -2, -2, -2, -2);
        new Run("Promise 1: an empty TAPE, no row, no IMAGE")
                .due("count(9) end(0) end(1) count(10)", 0, 0, -1, 0)
                .each(-6, "write(0, 0, 0) write(1, 0, 0) write(2, 0, 0) write(3, 0, 0) back(0) back(1) back(2)")
                .due("hundred() count(8) beats()", 0, 0, -2);
    }

    private static void objectsApart() {
        Run first = Run.told("Promise 1: another object has its own", HEAD + "field corn 7 rooks 1;");
        first.feed("x").after("row(0, 0, 3) image(0) speaks(0, 1)");
        new Run("Promise 1: a new object has nothing of another one")
                .due("count(3) count(7) count(8) count(9) count(10) back(0) field(0, 0)", 0, 0, 0, 0, 0, -6, -2);
        first.due("count(3) count(7) count(9) count(10) field(0, 0)", 1, 1, 1, 1, 7);
    }

    private static void feedCounts() {
        Run x = new Run("Promise 2: how many it has, 700 at most");
        for (int n = 20; n <= 700; n += 20) {
            x.due(ZEROS, n);
        }
        x.due(ZEROS + ZEROS + "count(9)", -1, -1, 700);
        x.due("end(700)" + ZEROS + "end(699)" + ZEROS + "count(9)", 700, -1, 699, -1, 699);
        x.due("end(681)" + ZEROS + "count(9)", 681, -1, 681);
        x.due("end(680)" + ZEROS + "count(9)", 680, 700, 700);
        x.due("end(0)" + ZEROS, 0, 20);
        x.due("end(19)" + ZEROS + "end(1)" + ZEROS, 19, 39, 1, 21);
    }

    private static void feedBeyond() {
        new Run("Promise 2: none come, if it would have 701").feed(HEAD + " ".repeat(653))
                .due(JUNK + "count(9) hundred() count(9)", -1, 681, 1, 0);
        new Run("Promise 2: all twenty come, if it has 700 then").feed(HEAD + " ".repeat(652))
                .due(JUNK + "hundred() fault(0) fault(1)", 700, -4, 1, 680);
        new Run("Promise 2: a TAPE of 700 bytes is read to its last").feed(HEAD + " ".repeat(651) + "field corn 1 rooks 1;")
                .due("count(9)" + JUNK + "hundred() count(3)", 700, -1, 2, 1);
        new Run("Promise 2: a number of many digits on a TAPE of 700 bytes")
                .feed("hundred days " + "0".repeat(673) + "9 law 3 odds 0").due("count(9)", 700)
                .due("hundred() fault(0) fault(1) end(699) hundred() fault(1)", -4, 1, 700, 699, -4, 699);
        new Run("Promise 2: a word at the end of 700 bytes").feed(HEAD + " ".repeat(667) + "field")
                .due("count(9) hundred() fault(0) fault(1)", 700, -4, 1, 700);
        new Run("Promise 2: no word at the end of 700 bytes").feed(HEAD + " ".repeat(667) + "ieldz")
                .due("count(9) hundred() fault(0) fault(1)", 700, -4, 1, 695);
        new Run("Promise 2: zeros ahead of a number, 700 bytes").feed("hundred days " + "0".repeat(672) + "9 law 3 odds 7;")
                .due("count(9) hundred() count(0) count(1) count(2)", 700, 1, 9, 3, 7);
        new Run("Promise 2: digits alone, 700 bytes").feed("hundred days " + "9".repeat(687))
                .due("count(9) hundred() fault(0) fault(1)", 700, -4, 2, 13);
    }

    private static void feedOrder() {
        // 'hund' 'red ' 'days' ' 3 l' 'aw 2', then ' odd' 's 1;'
        new Run("Promise 2: four of each number, the highest first")
                .due("feed(1752526436, 1919247392, 1684109683, 540221548, 1635196978)", 20)
                .due("feed(544171108, 1931489595, 538976288, 538976288, 538976288)", 40)
                .due("hundred() count(0) count(1) count(2)", 1, 3, 2, 1);
    }

    /** A byte of 128 or more is no sign with its highest bit cut off. */
    private static void feedHighBytes() {
        new Run("Promise 2: bytes 255").due("feed(-1, -1, -1, -1, -1) hundred() fault(0) fault(1)", 20, -4, 1, 0);
        new Run("Promise 2: 32 and 10 with the highest bit").feed(HEAD + (char) 160)
                .due("hundred() fault(0) fault(1)", -4, 1, 28);
        new Run("Promise 2: 10 with the highest bit").feed(HEAD + (char) 138).due("hundred() fault(1)", -4, 28);
        new Run("Promise 2: a letter with the highest bit").feed((char) ('h' + 128) + "undred")
                .due("hundred() fault(1)", -4, 0);
        new Run("Promise 2: a digit with the highest bit").feed("hundred days 1" + (char) ('1' + 128))
                .due("hundred() fault(0) fault(1)", -4, 1, 14);
        new Run("Promise 2: the sign with the highest bit").feed("hundred days 1 law 1 odds 1" + (char) (';' + 128))
                .due("hundred() fault(0) fault(1)", -4, 1, 27);
    }

    private static void endBounds() {
        new Run("Promise 3: an empty TAPE").due("end(0) end(1) end(-1) end(20) end(MAX) end(MIN)", 0, -1, -1, -1, -1, -1);
        new Run("Promise 3: not so many, or below 0: nothing happens").feed(HEAD)
                .due("end(29) end(-1) end(MAX) end(MIN) end(-28) count(9)", -1, -1, -1, -1, -1, 28)
                .due("end(28) count(9) hundred() count(0)", 28, 28, 1, 4);
        new Run("Promise 3: a full TAPE").feed(" ".repeat(700))
                .due("end(701) end(700) end(699) end(700) count(9)", -1, 700, 699, -1, 699);
    }

    private static void endCutsForGood() {
        new Run("Promise 3: its first n bytes alone").feed(HEAD + "junk").due("end(28) hundred()", 28, 1);
        new Run("Promise 3: bytes cut off don't come back").feed(HEAD).due("end(27) end(28) count(9)", 27, -1, 27)
                .due("hundred() fault(0) fault(1)", -4, 1, 27);
        new Run("Promise 3: the next bytes come behind the first n").feed("hundXXXX").due("end(4)", 4)
                .feed("red days 2 law 1 odds 5;").due("count(9) hundred() count(0) count(2)", 28, 1, 2, 5);
        new Run("Promise 3: none are left by end(0)").feed(HEAD).due("end(0) count(9) hundred() count(8)", 0, 0, 0, 0);
        Run.told("Promise 3: the HUNDRED is not of the TAPE any more", HEAD).due("end(0) count(8) end(28)", 0, 1, -1);
    }

    private static void faultBounds() {
        new Run("Promise 5: ahead of any").due("fault(0) fault(1) fault(2) fault(-1)", 0, -1, -1, -1);
        new Run("Promise 5: NONE for another what").feed("x")
                .due("hundred() fault(0) fault(1) fault(2) fault(-1) fault(MAX) fault(MIN) fault(32)",
                        -4, 1, 0, -1, -1, -1, -1, -1);
        Run.told("Promise 5: without a FAULT", HEAD).due("fault(0) fault(1) fault(2) fault(-1)", 0, -1, -1, -1);
        new Run("Promise 5: without a LINE").due("hundred() fault(0) fault(1)", 0, 0, -1);
    }

    private static void faultOfTheLatest() {
        Run x = Run.told("Promise 5: of the latest hundred()", HEAD + "field corn 1 rooks 1;").after("image(0)");
        x.feed("hundred days 0").due("hundred() fault(0) fault(1)", -4, 2, 13);
        x.due("end(0) fault(0) fault(1)", 0, 2, 13);
        x.feed("    x").due("fault(0) fault(1) hundred() fault(0) fault(1)", 2, 13, -4, 1, 4);
        x.due("back(0) speaks(0, 0) undo() fault(0) fault(1)", 0, 0, 0, 1, 4);
        x.due("end(0)", 0).feed(HEAD).due("hundred() fault(0) fault(1)", 1, 0, -1);
        x.feed("hundred days 1 law 9").due("hundred() fault(0) fault(1) end(0) hundred() fault(0) fault(1)",
                -4, 2, 19, 0, 0, 0, -1);
    }

    private static void lastPromisedCall() {
        // 6 calls tell it, 505 come behind them
        Run x = Run.told("What it is: at most 512 calls", HEAD + "field corn 9 rooks 1;");
        for (int i = 0; i < 252; i++) {
            x.due("speaks(0, 1) undo()", 0, 0);
        }
        x.due("count(7) corn(0, 4)", 0, 5);
    }
}
