/** The edges of promises 61 to 64 and 67 to 70: acts, what is taken back, frights, counts, IMAGES. */
public final class ActBoundsTest {
    /** 0, 1, 2 are elected; of 3 MEN each stands in a FIELD. FEAR is 6 4 2 0 0, 3 3 3 3 3, 9 4 0 0 0. */
    private static final String THREE = "hundred days 4 law 0 odds 3;field corn 50 rooks 10;field corn 30 rooks 4;"
            + "field corn 20 rooks 0;hedge 0 1;hedge 1 2;man frights 6 tires 2;man frights 3 tires 0;man frights 9 tires 5;"
            + "voter hats 3 0 1;voter hats 2 1 2 0;voter hats 2 2;";
    private static final String ONE = "hundred days 2 law 1 odds 5;field corn 10 rooks 5;man frights 2 tires 0;man frights 5 tires 5;";

    private ActBoundsTest() { }

    public static void main(String[] args) {
        putsBounds();
        putsElsewhere();
        putsWhereHeStands();
        putsNobody();
        speaksBounds();
        thirtyActs();
        refusedAtThirty();
        undoOneByOne();
        undoBounds();
        anewBounds();
        rateBounds();
        rateFromNowOn();
        rateAndActs();
        counts();
        imageBounds();
        imagesKeep();
        imagesOfActs();
        imageOfNoHundred();
        backKeepsTheRest();
        Check.finish();
    }

    private static void putsBounds() {
        Run x = Run.told("Promise 61: FIELDS, MEN and nobody", THREE);
        x.each(-2, "puts(3, 0) puts(-1, 0) puts(3, -1) puts(0, 3) puts(0, -2) puts(0, MAX) puts(0, MIN) puts(MAX, 0) puts(MIN, 0)");
        x.due("count(7) stands(0) stands(1) stands(2)", 0, 0, 1, 2);
        x.due("puts(0, -1) puts(2, 2) puts(2, 0) count(7)", 0, 2, 2, 3);
        Run.told("Promise 61: no MEN", "hundred days 1 law 0 odds 0;field corn 1 rooks 1;")
                .due("puts(0, 0) puts(0, -1) puts(0, -2) puts(1, -1) count(7)", -2, -1, -2, -2, 1);
        Run.told("Promise 61: no FIELDS", "hundred days 1 law 0 odds 0;man frights 1 tires 1;").each(-2, "puts(0, 0) puts(0, -1)");
        new Run("Promise 61: no HUNDRED").each(-2, "puts(0, 0) puts(0, -1) puts(-1, -1)");
    }

    private static void putsElsewhere() {
        Run.told("Promise 61: in place of who was there; nobody is where he was", THREE).due("puts(1, 0)", 1)
                .due("stands(0) stands(1) stands(2) where(0) where(1) where(2) guards()", -1, 0, 2, 1, -1, 2, 5)
                .due("puts(0, 1)", -1).due("stands(0) stands(1) where(1) guards()", 1, 0, 0, 7)
                .due("puts(2, 1)", 2).due("stands(0) stands(2) where(2) guards()", -1, 1, -1, 3);
        Run.told("Promise 61: a man who stood in none", "hundred days 1 law 0 odds 0;field corn 1 rooks 1;man frights 1 tires 1;"
                + "man frights 2 tires 1;").due("where(1) puts(0, 1) where(1) where(0) stands(0) fear(0, 0)", -1, 0, 0, -1, 1, 2);
    }

    private static void putsWhereHeStands() {
        Run.told("Promise 61: if he stands there already, all is as it was", THREE).due("all(4) puts(0, 0)", 68, 0)
                .due("stands(0) stands(1) stands(2) where(0) all(4) guards()", 0, 1, 2, 0, 68, 7).due("count(7) undo() all(4)", 1, 0, 68);
    }

    private static void putsNobody() {
        Run.told("Promise 61: or nobody is", THREE).due("puts(0, -1) stands(0) where(0) fear(0, 0) guards()", 0, -1, -1, 0, 6)
                .due("puts(0, -1) stands(0) guards() count(7)", -1, -1, 6, 2)
                .due("puts(1, -1) puts(2, -1) guards() stands(0) stands(1) stands(2)", 1, 2, 0, -1, -1, -1)
                .due("puts(0, 2) guards() where(2)", -1, 4, 0);
    }

    private static void speaksBounds() {
        Run x = Run.told("Promise 62: FIELDS, DAYS ahead of the last", THREE);
        x.each(-2, "speaks(3, 0) speaks(-1, 0) speaks(0, 4) speaks(0, 5) speaks(0, -1) speaks(0, MAX) speaks(0, MIN) speaks(MAX, 0)");
        x.due("count(7) speaks(0, 3) speaks(2, 0) speaks(1, 3) count(7)", 0, 6, 9, 3, 3);
        x.due("fear(0, 2) fear(0, 3) fear(0, 4) fear(2, 1) fear(2, 2)", 2, 6, 4, 4, 0);
        x.due("speaks(0, 3) count(7) fear(0, 3)", 6, 4, 6);
        x.due("puts(2, -1) speaks(2, 1) fear(2, 1) puts(2, 2) fear(2, 1) fear(2, 2) fear(2, 3)", 2, 0, 0, -1, 9, 4, 0);
        Run.told("Promise 62: days 1", "hundred days 1 law 0 odds 0;field corn 1 rooks 1;").due("speaks(0, 0) speaks(0, 1)", 0, -2);
        Run.told("Promise 62: days 16", "hundred days 16 law 0 odds 0;field corn 1 rooks 1;man frights 40 tires 9;")
                .due("speaks(0, 15) speaks(0, 16) fear(0, 15) fear(0, 16)", 40, -2, 40, 31);
        Run.told("Promise 62: no FIELDS", "hundred days 1 law 0 odds 0;").due("speaks(0, 0)", -2);
        new Run("Promise 62: no HUNDRED").due("speaks(0, 0)", -2);
    }

    private static void thirtyActs() {
        Run x = Run.told("Promises 61, 62: -5: there were 30 acts", THREE);
        for (int acts = 0; acts < 30; acts++) {
            x.due("count(7)", acts).due(acts % 2 == 0 ? "puts(0, 0)" : "speaks(0, 0)", acts % 2 == 0 ? 0 : 6);
        }
        x.due("count(7) puts(0, 0) puts(1, 2) puts(1, -1) speaks(0, 0) speaks(2, 3) count(7)", 30, -5, -5, -5, -5, -5, 30);
        x.due("undo() speaks(2, 3) count(7) speaks(2, 3)", 29, 9, 30, -5);
        x.due("undo() puts(1, 2) puts(1, 1) stands(1)", 29, 1, -5, 2);
        x.due("anew() count(7) puts(1, 2)", 30, 0, 1);
    }

    private static void refusedAtThirty() {
        Run x = Run.told("Promises 61, 62: -2 is asked ahead of -5; nothing happens", THREE);
        for (int acts = 0; acts < 30; acts++) {
            x.after("puts(2, 2)");
        }
        x.each(-2, "puts(3, 0) puts(-1, 0) puts(0, 3) puts(0, -2) speaks(3, 0) speaks(-1, 0) speaks(0, 4) speaks(0, -1)");
        x.each(-2, "rate(3, 0) rate(-1, 0) rate(0, 41) rate(0, -1)").due("rate(0, 1)", -5);
        x.each(-5, "puts(0, 1) puts(0, -1) speaks(0, 1) speaks(2, 2)");
        x.due("stands(0) stands(1) stands(2) fear(0, 1) fear(2, 2) all(4) man(0, 0) count(7)", 0, 1, 2, 4, 0, 68, 6, 30);
        x.due("undo() undo() count(7)", 29, 28, 28);
    }

    private static void undoOneByOne() {
        Run x = Run.told("Promise 63: the latest act is taken back", THREE);
        x.due("puts(1, 0) speaks(1, 2) puts(0, 1) puts(2, -1) speaks(0, 3)", 1, 6, -1, 2, 3);
        x.due("undo() fear(0, 3) fear(1, 2) stands(2)", 4, 3, 6, -1);
        x.due("undo() stands(2) stands(0) stands(1)", 3, 2, 1, 0);
        x.due("undo() stands(0) stands(1) fear(1, 2)", 2, -1, 0, 6);
        x.due("undo() fear(1, 2) stands(1)", 1, 2, 0);
        x.due("undo() stands(0) stands(1) all(4) undo() count(7)", 0, 0, 1, 68, -5, 0);
        Run.told("Promise 63: of two speeches on a DAY one stays", THREE).due("speaks(0, 2) speaks(0, 2) undo() fear(0, 2)", 6, 6, 1, 6)
                .due("undo() fear(0, 2)", 0, 2);
        Run.told("Promise 63: he who was put away is back", THREE).due("puts(0, 2) undo() stands(0) stands(2) where(0)", 0, 0, 0, 2, 0);
    }

    private static void undoBounds() {
        new Run("Promise 63: no HUNDRED").due("undo() anew()", -2, -2);
        Run.told("Promise 63: there is none", THREE).due("undo() undo() speaks(0, 0) undo() undo()", -5, -5, 6, 0, -5);
        Run.told("Promise 63: a new HUNDRED has none", THREE).after("puts(0, 1)").feed(ONE).due("hundred() undo() anew()", 4, -5, 0);
    }

    private static void anewBounds() {
        Run.told("Promise 64: all are, how many there were", THREE).due("anew()", 0)
                .due("puts(0, 2) speaks(1, 1) puts(1, 0) anew()", 0, 3, 1, 3)
                .due("count(7) stands(0) stands(1) stands(2) all(4) fear(2, 1) anew() undo()", 0, 0, 1, 2, 68, 4, 0, -5);
    }

    private static void rateBounds() {
        Run x = Run.told("Promise 67: n 0 to 40, MEN", THREE);
        x.due("rate(0, 0) man(0, 0) rate(0, 40) man(0, 0) man(0, 1)", 6, 0, 0, 40, 2);
        x.each(-2, "rate(0, 41) rate(0, -1) rate(0, MAX) rate(0, MIN) rate(3, 1) rate(-1, 1) rate(MAX, 1) rate(MIN, 1) rate(32, 1)");
        x.due("man(0, 0) rate(2, 1) man(2, 0) man(1, 0) count(7)", 40, 9, 1, 3, 0);
        Run.told("Promise 67: no MEN", "hundred days 1 law 0 odds 0;").due("rate(0, 0)", -2);
        new Run("Promise 67: no HUNDRED").due("rate(0, 0)", -2);
    }

    private static void rateFromNowOn() {
        Run.told("Promise 67: from now on", THREE).due("rate(0, 10) fear(0, 0) fear(0, 4) all(1) tired(0)", 6, 10, 2, 99, 5)
                .due("puts(1, 0) undo() anew() man(0, 0) fear(0, 0) rate(0, 10)", 1, 0, 0, 10, 10, 10);
        // 0 leaves 4, and with frights 5 all; 1, who tires, leaves 5
        Run.told("Promise 67: what was asked ahead of it", ONE).due("fear(0, 0) all(2) best() put(0) tired(0)", 2, 4, 5, 1, -1)
                .due("rate(0, 5) fear(0, 0) all(2) best() put(0) tired(0)", 2, 5, 10, 10, 0, -1);
        Run.told("Promise 67: till another HUNDRED", ONE).after("rate(0, 9)").feed(ONE).due("hundred() man(0, 0)", 4, 2);
    }

    private static void rateAndActs() {
        Run x = Run.told("Promise 67: -5: there are acts that are not taken back", THREE);
        x.due("puts(0, 0) rate(0, 5) man(0, 0) rate(0, 41) rate(3, 0)", 0, -5, 6, -2, -2);
        x.due("undo() rate(0, 5) speaks(0, 0) rate(0, 6) anew() rate(0, 6) man(0, 0)", 0, 6, 5, -5, 1, 5, 6);
    }

    private static void counts() {
        Run x = Run.told("Promise 68: 0 to 10, NONE for others", THREE).feed("abc").after("speaks(0, 0) row(0, 0, 0) row(3, 3, 60)");
        x.due("count(0) count(1) count(2) count(3) count(4) count(5)", 4, 0, 3, 3, 2, 3);
        x.due("count(6) count(7) count(8) count(9) count(10)", 3, 1, 12, 3, 2);
        x.each(-1, "count(-1) count(11) count(MAX) count(MIN) count(32) count(256)");
        x.due("row(0, 1, 3) count(10) row(1, 0, 0) row(2, 0, 1) count(10) row(0, 0, -1) count(10)", 0, 2, 0, 0, 4, -3, 4);
        Run y = Run.told("Promise 68: LAW and odds", ONE);
        y.due("count(0) count(1) count(2) count(8)", 2, 1, 5, 4);
        new Run("Promise 68: no HUNDRED").due("count(11) count(-1) count(0) count(10)", -1, -1, 0, 0);
    }

    private static void imageBounds() {
        Run x = Run.told("Promises 69, 70: IMAGES 0 to 2", THREE);
        x.each(-2, "image(-1) image(3) image(MAX) image(MIN) back(-1) back(3) back(MAX) back(MIN) image(32) back(32)");
        x.each(-6, "back(0) back(1) back(2)");
        x.due("image(0) back(0) back(1) back(2) image(2) back(2) back(1) image(1) back(1)", 0, 0, -6, -6, 0, 0, -6, 0, 0);
        new Run("Promises 69, 70: no HUNDRED").due("image(3) image(-1) back(3) back(0)", -2, -2, -2, -6);
    }

    private static void imagesKeep() {
        Run x = Run.told("Promises 69, 70: the HUNDRED as it was", THREE).after("rate(1, 7) image(0)").feed(ONE);
        x.due("hundred() image(1) rate(0, 33) image(2)", 4, 0, 2, 0);
        x.due("back(0) count(0) count(2) count(3) count(4) count(5) count(6) count(8)", 0, 4, 3, 3, 2, 3, 3, 12);
        x.due("man(1, 0) man(0, 0) wants(1, 2) hedges(1) hats(0) field(2, 0) stands(2) fear(1, 3)", 7, 6, 0, 5, 3, 20, 2, 7);
        x.due("back(1) count(0) count(3) count(8) man(0, 0) hats(0) fear(0, 1)", 0, 2, 1, 4, 2, -2, 2);
        x.due("back(2) man(0, 0) fear(0, 1) back(1) man(0, 0)", 0, 33, 33, 0, 2);
        // what is done behind it does not change an IMAGE
        x.due("rate(0, 1) speaks(0, 0) back(1) man(0, 0) count(7)", 2, 1, 0, 2, 0);
        x.due("back(0) image(1) back(2) back(1) count(8)", 0, 0, 0, 0, 12);
    }

    private static void imagesOfActs() {
        Run x = Run.told("Promises 69, 70: and acts", THREE).after("puts(0, 1) speaks(2, 3) image(0) anew() speaks(1, 2) puts(2, 0)");
        x.due("back(0) count(7) stands(0) stands(1) stands(2) fear(2, 3)", 0, 2, 1, -1, 2, 9);
        x.due("rate(0, 1) undo() stands(0) fear(2, 3) undo() stands(0) undo()", -5, 1, 1, 0, 0, 0, -5);
        x.due("back(0) count(7) anew() rate(0, 1) back(0) man(0, 0) count(7)", 0, 2, 2, 6, 0, 6, 2);
        Run full = Run.told("Promises 69, 70: 30 acts", THREE);
        for (int acts = 0; acts < 30; acts++) {
            full.after("puts(" + acts % 3 + ", " + acts % 3 + ")");
        }
        full.due("image(1) anew() back(1) count(7) puts(0, 0) undo() puts(0, 1) count(7)", 0, 30, 0, 30, -5, 29, 0, 30);
    }

    private static void imageOfNoHundred() {
        new Run("Promises 69, 70: no HUNDRED is kept, too").due("image(1) back(1)", 0, 0).feed(ONE)
                .due("hundred() speaks(0, 0) back(1) count(8) count(7) beats() back(0)", 4, 2, 0, 0, 0, -2, -6)
                .each(0, "count(0) count(1) count(2) count(3) count(5)");
    }

    private static void backKeepsTheRest() {
        Run x = Run.told("Promise 70: TAPE, SLOTS, the FAULT and other IMAGES stay", THREE).after("image(0)").feed("hundred days 0");
        x.due("hundred() fault(0) row(1, 1, 2) image(1) back(0)", -4, 2, 0, 0, 0);
        x.due("count(9) count(10) write(1, 1, 0) write(1, 2, 0) fault(0) fault(1) back(2) back(1)", 14, 1, 0, -7, 2, 13, -6, 0);
    }
}
