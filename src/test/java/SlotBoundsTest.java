/** The edges of promises 71 to 73: rows of numbers. What a row has is seen by may: 32 if all of it is so, 0 if not. */
public final class SlotBoundsTest {
    /** Nobody stands, no rook flies: in the FIELDS 0 to 4 there are 1, 2, 3, 4, 5 rooks on each DAY 0 to 16. */
    private static final String ROOKS = "hundred days 16 law 0 odds 0;field corn 0 rooks 1;field corn 0 rooks 2;"
            + "field corn 0 rooks 3;field corn 0 rooks 4;field corn 0 rooks 5;";
    private static final long[] BEYOND = {1L << 8, 1L << 16, 1L << 32};

    private SlotBoundsTest() { }

    public static void main(String[] args) {
        rowBounds();
        rowInPlaceOfAnother();
        rowAllZero();
        rowRefused();
        writeBounds();
        writeCut();
        writeOrder();
        pasteWhole();
        pasteBounds();
        pasteNone();
        pasteOverlaps();
        pasteOrder();
        pasteRefusedChangesNothing();
        slotsWithoutHundred();
        Check.finish();
    }

    private static String writes(int slot, long... numbers) {
        StringBuilder calls = new StringBuilder();
        for (int i = 0; i < numbers.length; i++) {
            calls.append("write(").append(slot).append(", ").append(i).append(", ").append(numbers[i]).append(") ");
        }
        return calls.toString();
    }

    private static void rowBounds() {
        Run x = new Run("Promise 71: SLOTS 0 to 3, WIDTHS 0 to 3, 0 to 60 numbers");
        x.due("row(0, 0, 0) row(3, 3, 60) row(1, 3, 60) row(2, 0, 1) count(10)", 0, 0, 0, 0, 4);
        x.each(-2, "row(4, 0, 1) row(-1, 0, 1) row(MAX, 0, 1) row(MIN, 0, 1) row(0, 4, 1) row(0, -1, 1) row(0, MAX, 1) row(0, MIN, 1)");
        x.each(-2, "row(0, 0, 61) row(0, 3, 61) row(0, 0, MAX) row(0, 0, 64) row(0, 0, 256) row(32, 0, 1) row(0, 32, 1)");
        x.each(-3, "row(0, 0, -1) row(3, 3, -60) row(2, 1, MIN)");
        x.due("write(3, 59, 1) write(3, 60, 1) write(0, 0, 1) write(2, 0, 1) write(2, 1, 1)", 0, -7, -7, 0, -7);
    }

    private static void rowInPlaceOfAnother() {
        new Run("Promise 71: in place of another one").due("row(0, 0, 60) row(0, 1, 3) write(0, 2, 0) write(0, 3, 0)", 0, 0, 0, -7)
                .due("row(1, 0, 3) paste(0, 0, 1, 0, 1) row(0, 0, 3) paste(0, 0, 1, 0, 1)", 0, -8, 0, 0)
                .due("row(0, 0, 0) write(0, 0, 0) count(10)", 0, -7, 2);
    }

    private static void rowAllZero() {
        Run x = Run.told("Promise 71: all 0", ROOKS);
        for (int width = 0; width < 4; width++) {
            x.after("row(0, " + width + ", 3)").due("may(0, 0)", 0).after(writes(0, 4, 16, 5)).due("may(0, 0)", 32);
            // FIELD 0, DAY 0 again, and its one rook
            x.after("row(0, " + width + ", 3) write(0, 2, 1)").due("may(0, 0)", 32);
        }
        x.after("row(1, 1, 60)" + writes(1, 4, 16, 5)).after("row(1, 1, 3) row(1, 1, 60)");
        for (int i = 2; i < 60; i += 3) {
            x.after("write(1, " + i + ", 1)");
        }
        x.due("may(1, 0)", 32);
    }

    private static void rowRefused() {
        Run x = Run.told("Promise 71: refused: the SLOT stays", ROOKS).after("row(0, 1, 3)" + writes(0, 2, 9, 3));
        x.due("row(0, 0, -1) may(0, 0) row(0, 0, 61) may(0, 0) row(0, 4, 1) may(0, 0) row(0, -1, 6) may(0, 0)",
                -3, 32, -2, 32, -2, 32, -2, 32);
        x.due("row(1, 0, -1) write(1, 0, 0) count(10) row(1, 1, 3) paste(0, 0, 1, 0, 3) may(1, 0)", -3, -6, 1, 0, 0, 32);
        x.each(-2, "row(4, 0, -1) row(-1, 0, -1) row(0, 4, -1) row(0, -1, -1) row(4, 4, 61) row(0, 4, 61)");
    }

    private static void writeBounds() {
        Run x = new Run("Promise 72: SLOTS, numbers");
        x.after("row(0, 0, 60) row(1, 3, 1) row(2, 1, 0)");
        x.due("write(0, 0, 1) write(0, 59, 1) write(0, 60, 1) write(0, -1, 1) write(0, MAX, 1) write(0, MIN, 1)", 0, 0, -7, -7, -7, -7);
        x.due("write(1, 0, 1) write(1, 1, 1) write(2, 0, 1) write(2, -1, 1) write(3, 0, 1)", 0, -7, -7, -7, -6);
        x.each(-2, "write(4, 0, 1) write(-1, 0, 1) write(MAX, 0, 1) write(MIN, 0, 1)");
        // a number beyond its row is not the first of the next SLOT's
        Run y = Run.told("Promise 72: beyond its row nothing is written", ROOKS).after("row(0, 0, 60) row(1, 0, 3)" + writes(1, 1, 1, 2));
        y.due("write(0, 60, 4) write(0, 61, 4) write(2, -58, 4) may(1, 0) write(1, 3, 9) write(1, -1, 9) may(1, 0)",
                -7, -7, -6, 32, -7, -7, 32);
    }

    private static void writeCut() {
        Run x = Run.told("Promise 72: cut to its WIDTH", ROOKS);
        for (int width = 0; width < 3; width++) {
            long beyond = BEYOND[width];
            x.after("row(0, " + width + ", 3)" + writes(0, 4, 16, 5 + beyond)).due("may(0, 0)", 32);
            x.after(writes(0, 4 + beyond, 16 - beyond, 5 + 7 * beyond)).due("may(0, 0)", 32);
            x.after(writes(0, 4, 16, 5 + (1L << 62))).due("may(0, 0)", 32);
            // the highest bit of the WIDTH is not cut
            x.after(writes(0, 4, 16, 5 + beyond / 2)).due("may(0, 0)", -2);
            x.after(writes(0, 4, 16, 5 - beyond / 2)).due("may(0, 0)", -2);
            x.after(writes(0, 4, 16, -1)).due("may(0, 0)", -2).after(writes(0, 4, 16, beyond - 1)).due("may(0, 0)", -2);
        }
        x.after("row(0, 3, 3)" + writes(0, 4, 16, 5)).due("may(0, 0)", 32);
        x.after(writes(0, 4, 16, 5 + (1L << 32))).due("may(0, 0)", -2).after(writes(0, 4, 16, 5 + (1L << 62))).due("may(0, 0)", -2);
        x.after(writes(0, 4 + (1L << 32), 16, 5)).due("may(0, 0)", -2).after(writes(0, 4, 16 + (1L << 32), 5)).due("may(0, 0)", -2);
        x.after(writes(0, 4, 16, Long.MIN_VALUE)).due("may(0, 0)", -2).after(writes(0, 4, 16, Long.MAX_VALUE)).due("may(0, 0)", -2);
    }

    private static void writeOrder() {
        new Run("Promise 72: -2, then -6, then -7").due("write(4, -1, 0) write(-1, 60, 0) write(0, -1, 0) write(0, 60, 0)", -2, -2, -6, -6)
                .due("row(0, 0, 60) write(0, 60, 0)", 0, -7);
    }

    private static void pasteWhole() {
        Run x = Run.told("Promise 73: all numbers of a row of 60", ROOKS).after("row(0, 2, 60) row(3, 2, 60)");
        for (int i = 0; i < 60; i += 3) {
            int field = i / 3 % 5;
            x.after("write(0, " + i + ", " + field + ") write(0, " + (i + 1) + ", " + i / 4 + ") write(0, " + (i + 2) + ", "
                    + (field + 1) + ")");
        }
        x.due("may(0, 0) may(3, 0) paste(0, 0, 3, 0, 60) may(3, 0) may(0, 0)", 32, 0, 0, 32, 32);
        // 'so many, from one on, to from one on': the last three, then one of them
        x.after("row(1, 2, 3)").due("paste(0, 57, 1, 0, 3) may(1, 0) paste(0, 2, 1, 2, 1) may(1, 0)", 0, 32, 0, 0);
        x.due("paste(0, 59, 1, 2, 1) may(1, 0) write(0, 59, 9) may(1, 0) may(0, 0)", 0, 32, 0, 32, 0);
        for (int width = 0; width < 4; width++) {
            x.after("row(1, " + width + ", 3) row(2, " + width + ", 6)" + writes(1, 3, 7, 4) + writes(2, 1, 1, 2))
                    .due("may(2, 0) paste(1, 0, 2, 3, 3) may(2, 0)", 0, 0, 32);
        }
    }

    private static void pasteBounds() {
        Run x = new Run("Promise 73: -7: beyond their rows, below 0").after("row(0, 1, 6) row(1, 1, 3)");
        x.due("paste(0, 3, 1, 0, 3) paste(0, 4, 1, 0, 3) paste(0, 0, 1, 0, 3) paste(0, 0, 1, 1, 3) paste(0, 0, 1, 1, 2)",
                0, -7, 0, -7, 0);
        x.due("paste(0, 0, 1, 0, 4) paste(1, 0, 0, 0, 3) paste(1, 0, 0, 0, 4) paste(1, 0, 0, 3, 3) paste(1, 0, 0, 4, 3)",
                -7, 0, -7, 0, -7);
        x.each(-7, "paste(0, -1, 1, 0, 1) paste(0, 0, 1, -1, 1) paste(0, 0, 1, 0, -1) paste(0, -1, 1, -1, 0) paste(0, 1, 1, 1, -1)");
        x.each(-7, "paste(0, MAX, 1, 0, 1) paste(0, 0, 1, MAX, 1) paste(0, 0, 1, 0, MAX) paste(0, MAX, 1, MAX, MAX)");
        x.each(-7, "paste(0, MIN, 1, 0, 1) paste(0, 0, 1, MIN, 1) paste(0, 0, 1, 0, MIN) paste(0, MIN, 1, MIN, MIN)");
        x.each(-7, "paste(0, 1, 1, 0, MAX) paste(0, MAX, 0, MAX, 2) paste(0, MIN, 0, MIN, MAX) paste(0, 6, 1, 0, 1) paste(0, 0, 1, 3, 1)");
    }

    private static void pasteNone() {
        Run x = new Run("Promise 73: none of them").after("row(0, 1, 6) row(1, 1, 0)");
        x.due("paste(0, 0, 1, 0, 0) paste(0, 6, 1, 0, 0) paste(1, 0, 0, 6, 0) paste(1, 0, 1, 0, 0)", 0, 0, 0, 0);
        x.each(-7, "paste(0, 7, 1, 0, 0) paste(0, 0, 1, 1, 0) paste(0, -1, 1, 0, 0) paste(0, 0, 1, -1, 0) paste(0, 0, 1, 0, 1)");
    }

    private static void pasteOverlaps() {
        Run x = Run.told("Promise 73: its own, as they were", ROOKS);
        // 1 2 2 3 3 4 to 0 1 2 2 3 3: one on, and one back
        x.after("row(0, 0, 7)" + writes(0, 1, 2, 2, 3, 3, 4, 0)).due("paste(0, 0, 0, 1, 6)", 0);
        x.after("row(1, 0, 6)").due("paste(0, 1, 1, 0, 6) may(1, 0)", 0, 32);
        x.due("paste(0, 1, 0, 0, 6) paste(0, 0, 1, 0, 6) may(1, 0)", 0, 0, 32);
        // 1 2 2 3 3 4 three on: 1 2 2 1 2 2
        x.due("paste(1, 0, 1, 3, 3) may(1, 0) write(1, 5, 4) may(1, 0)", 0, 32, 0, 0);
        x.due("paste(1, 0, 1, 0, 6) may(1, 0) write(1, 5, 2) may(1, 0)", 0, 0, 0, 32);
    }

    private static void pasteOrder() {
        Run x = new Run("Promise 73: -2, then -6, then -8, then -7").after("row(0, 0, 6) row(1, 1, 6)");
        x.each(-2, "paste(4, 0, 0, 0, 1) paste(0, 0, 4, 0, 1) paste(-1, 0, 0, 0, 1) paste(0, 0, -1, 0, 1) paste(2, 0, 4, 0, 1)");
        x.each(-2, "paste(4, 0, 2, 0, 1) paste(4, -1, 1, 0, 1) paste(0, -1, 4, 0, -1) paste(MAX, 0, 0, 0, 0) paste(0, 0, MIN, 0, 0)");
        x.each(-6, "paste(2, 0, 0, 0, 1) paste(0, 0, 2, 0, 1) paste(2, 0, 2, 0, 0) paste(2, 0, 3, 0, 0) paste(2, -1, 0, 0, 1)");
        x.each(-6, "paste(0, 0, 2, -1, 1) paste(0, 0, 2, 0, -1)");
        x.each(-8, "paste(0, 0, 1, 0, 1) paste(1, 0, 0, 0, 1) paste(0, -1, 1, 0, 1) paste(0, 0, 1, 7, 1) paste(0, 0, 1, 0, -1)");
        x.each(-8, "paste(0, 0, 1, 0, 0) paste(1, 0, 0, 0, 61)");
        x.each(-7, "paste(0, -1, 0, 0, 1) paste(0, 0, 0, 0, 7)");
        for (int width = 0; width < 4; width++) {
            for (int other = 0; other < 4; other++) {
                x.after("row(2, " + width + ", 1) row(3, " + other + ", 1)").due("paste(2, 0, 3, 0, 1)", width == other ? 0 : -8);
            }
        }
    }

    private static void pasteRefusedChangesNothing() {
        Run x = Run.told("Promise 73: -7, and nothing happens", ROOKS).after("row(0, 0, 6) row(1, 0, 3)");
        x.after(writes(0, 4, 4, 5, 3, 3, 4) + writes(1, 1, 1, 2)).due("may(0, 0) may(1, 0)", 32, 32);
        x.each(-7, "paste(0, 2, 1, 0, 4) paste(0, 4, 1, 0, 3) paste(0, 3, 1, 1, 3) paste(1, 1, 0, 0, 3) paste(1, 0, 0, 4, 3)");
        x.each(-7, "paste(0, -1, 1, 0, 3) paste(0, 0, 1, -1, 3) paste(0, 4, 0, 0, 3) paste(0, 0, 0, 4, 3)");
        x.due("may(0, 0) may(1, 0) paste(0, 0, 1, 0, -1) may(1, 0) count(10)", 32, 32, -7, 32, 2);
    }

    private static void slotsWithoutHundred() {
        new Run("Promises 71 to 73: no HUNDRED is needed").due("row(0, 0, 3) write(0, 2, 1) paste(0, 0, 0, 1, 2)", 0, 0, 0)
                .feed(ROOKS).due("hundred() count(10) may(0, 0)", 6, 1, 0).due("write(0, 2, 1) may(0, 0)", 0, 32);
    }
}
