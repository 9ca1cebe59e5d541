/**
 * The edges of Terms I (LINES, TOKENS, FAULTS) and of promises 4 and 5. In a bad text a | stands ahead of the place of its
 * FAULT, and is not fed.
 */
public final class TextBoundsTest {
    private static final String HEAD = "hundred days 4 law 0 odds 0;";
    private static final String FIELD = "field corn 1 rooks 1;";
    private static final String MAN = "man frights 1 tires 1;";
    private static final String VOTER = "voter hats 1;";
    private static final String HEDGE = "hedge 0 1;";
    /** A number told as this one is like the valid number behind it, if it wraps around in 8, 16, 32 or 64 bits. */
    private static final String[][] WRAPS = {
        {"256", "257"}, {"65536", "65537"}, {"4294967296", "4294967297"}, {"18446744073709551616", "18446744073709551617"}};

    private TextBoundsTest() { }

    public static void main(String[] args) {
        bounds();
        hedgeFields();
        voterRows();
        wraps();
        leadingZeros();
        firstLine();
        menAheadOfVoters();
        numberedAsTheyStand();
        tooMany();
        blanks();
        noTokens();
        longestTokens();
        otherWords();
        cantStandThere();
        firstByItsPlace();
        leastOfOnePlace();
        prefixes();
        noLines();
        tapeBecomesHundred();
        allStays();
        Check.finish();
    }

    private static void bad(String label, String marked, int fault) {
        int place = marked.indexOf('|');
        new Run(label + " '" + marked + "'").feed(marked.substring(0, place) + marked.substring(place + 1))
                .due("hundred() fault(0) fault(1) count(8)", -4, fault, place, 0);
    }

    private static Run good(String label, String text) {
        return Run.told(label + " '" + text + "'", text).due("fault(0) fault(1)", 0, -1);
    }

    /** Each bound of a number from within and from one beyond; what is behind the number is right. */
    private static void bounds() {
        String label = "Promise 4, Terms I: bounds";
        good(label, "hundred days 1 law 0 odds 0;").due("count(0) count(1) count(2)", 1, 0, 0);
        good(label, "hundred days 16 law 3 odds 10;").due("count(0) count(1) count(2)", 16, 3, 10);
        bad(label, "hundred days |0 law 0 odds 0;", 2);
        bad(label, "hundred days |17 law 0 odds 0;", 2);
        bad(label, "hundred days 1 law |4 odds 0;", 2);
        bad(label, "hundred days 1 law 0 odds |11;", 2);
        good(label, HEAD + "field corn 0 rooks 0;").due("field(0, 0) field(0, 1)", 0, 0);
        good(label, HEAD + "field corn 300 rooks 40;").due("field(0, 0) field(0, 1)", 300, 40);
        bad(label, HEAD + "field corn |301 rooks 0;", 2);
        bad(label, HEAD + "field corn 0 rooks |41;", 2);
        good(label, HEAD + "man frights 0 tires 0;").due("man(0, 0) man(0, 1)", 0, 0);
        good(label, HEAD + "man frights 40 tires 9;").due("man(0, 0) man(0, 1)", 40, 9);
        bad(label, HEAD + "man frights |41 tires 0;", 2);
        bad(label, HEAD + "man frights 0 tires |10;", 2);
        good(label, HEAD + "voter hats 1;").due("hats(0)", 1);
        good(label, HEAD + "voter hats 9;").due("hats(0)", 9);
        bad(label, HEAD + "voter hats |0;", 2);
        bad(label, HEAD + "voter hats |10;", 2);
        bad("Promise 4, Terms I: no number is below 0", "hundred days 1 law |-1 odds 0;", 1);
    }

    private static void hedgeFields() {
        String label = "Promise 4, Terms I: two unlike FIELDS told ahead";
        good(label, HEAD + FIELD + FIELD + "hedge 0 1;").due("hedges(0) hedges(1) count(4)", 2, 1, 1);
        good(label, HEAD + FIELD.repeat(5) + "hedge 4 0;hedge 3 4;").due("hedges(0) hedges(3) hedges(4)", 16, 16, 9);
        bad(label, HEAD + "hedge |0 1;", 2);
        bad(label, HEAD + FIELD + "hedge 0 |1;", 2);
        bad(label, HEAD + FIELD + "hedge |1 0;", 2);
        bad(label, HEAD + FIELD + FIELD + "hedge 0 |2;", 2);
        bad(label, HEAD + FIELD + FIELD + "hedge |2 0;", 2);
        bad(label, HEAD + FIELD.repeat(5) + "hedge 0 |5;", 2);
        bad(label, HEAD + FIELD.repeat(5) + "hedge |5 0;", 2);
        bad(label, HEAD + FIELD + "hedge 0 |0;", 2);
        bad(label, HEAD + FIELD.repeat(5) + "hedge 4 |4;", 2);
        bad("Promise 4, Terms I: a FIELD told behind the hedge", HEAD + FIELD + "hedge 0 |1;" + FIELD, 2);
        good("Promise 4, Terms I: a HEDGE told twice", HEAD + FIELD + FIELD + "hedge 0 1;hedge 1 0;")
                .due("count(4) hedges(0) hedges(1)", 2, 2, 1);
    }

    private static void voterRows() {
        String label = "Promise 4, Terms I: unlike MEN told ahead, none, some or all";
        good(label, HEAD + MAN.repeat(5) + "voter hats 1;").due("wants(0, 0)", -1);
        good(label, HEAD + MAN.repeat(5) + "voter hats 1 4;").due("wants(0, 0) wants(0, 1)", 4, -1);
        good(label, HEAD + MAN.repeat(5) + "voter hats 1 4 3 2 1 0;")
                .due("wants(0, 0) wants(0, 1) wants(0, 2) wants(0, 3) wants(0, 4) wants(0, 5)", 4, 3, 2, 1, 0, -1);
        bad(label, HEAD + "voter hats 1 |0;", 2);
        bad(label, HEAD + MAN + "voter hats 1 |1;", 2);
        bad(label, HEAD + MAN.repeat(5) + "voter hats 1 |5;", 2);
        bad(label, HEAD + MAN.repeat(5) + "voter hats 1 0 1 2 3 |5;", 2);
        bad(label, HEAD + MAN + "voter hats 1 0 |0;", 2);
        bad(label, HEAD + MAN.repeat(5) + "voter hats 1 4 3 |4;", 2);
        bad(label, HEAD + MAN.repeat(5) + "voter hats 1 0 1 2 3 |3;", 2);
        bad(label, HEAD + MAN.repeat(5) + "voter hats 1 0 1 2 3 4 |0;", 2);
        bad(label, HEAD + MAN.repeat(5) + "voter hats 1 0 1 2 3 4 |4;", 2);
        good("Promise 4, Terms I: a ROW is each VOTER's own", HEAD + MAN.repeat(2) + "voter hats 1 0 1;voter hats 1 0;")
                .due("wants(0, 1) wants(1, 0) wants(1, 1)", 1, 0, -1);
    }

    private static void wraps() {
        String label = "Promise 4, Terms I: a long number is out of its bounds";
        String men = HEAD + MAN.repeat(2);
        String fields = HEAD + FIELD.repeat(2);
        for (String[] wrap : WRAPS) {
            bad(label, "hundred days |" + wrap[1] + " law 0 odds 0;", 2);
            bad(label, "hundred days 1 law |" + wrap[0] + " odds 0;", 2);
            bad(label, "hundred days 1 law 0 odds |" + wrap[0] + ";", 2);
            bad(label, HEAD + "field corn 0 rooks |" + wrap[0] + ";", 2);
            bad(label, fields + "hedge |" + wrap[0] + " 1;", 2);
            bad(label, fields + "hedge 0 |" + wrap[1] + ";", 2);
            bad(label, HEAD + "man frights |" + wrap[1] + " tires 1;", 2);
            bad(label, HEAD + "man frights 1 tires |" + wrap[1] + ";", 2);
            bad(label, HEAD + "voter hats |" + wrap[1] + ";", 2);
            bad(label, men + "voter hats 1 |" + wrap[0] + ";", 2);
        }
        bad(label, HEAD + "field corn |65536 rooks 0;", 2);
        bad(label, HEAD + "field corn |4294967596 rooks 0;", 2);
        bad(label, HEAD + "field corn |18446744073709551616 rooks 0;", 2);
        bad(label, HEAD + "field corn |2147483648 rooks 0;", 2);
        bad(label, HEAD + "field corn |9223372036854775808 rooks 0;", 2);
        bad(label + ", as a man or a FIELD by a shift", men + "voter hats 1 0 |32;", 2);
        bad(label + ", as a man or a FIELD by a shift", fields + "hedge 0 |33;", 2);
    }

    private static void leadingZeros() {
        good("Promise 4, TOKENS: numbers are digits", "hundred days 016 law 00 odds 010;field corn 0000000000000000000300"
                + " rooks 040;field corn 00 rooks 000;hedge 000 01;man frights 040 tires 09;voter hats 09 00;")
                .due("count(0) count(1) count(2) field(0, 0) field(0, 1) hedges(0) man(0, 0) man(0, 1) hats(0) wants(0, 0)",
                        16, 0, 10, 300, 40, 2, 40, 9, 9, 0);
        bad("Promise 4, TOKENS: zeros alone are 0", "hundred days |000 law 0 odds 0;", 2);
        bad("Promise 4, TOKENS: zeros ahead don't make it less", HEAD + "field corn |0000301 rooks 0;", 2);
    }

    private static void firstLine() {
        String label = "Promise 4, Terms I: hundred is the first LINE and no other";
        for (String line : new String[] {FIELD, "hedge 0 1;", MAN, VOTER, ";", "days 1;", "7;", "x;"}) {
            bad(label, "|" + line + HEAD, 1);
        }
        bad(label, HEAD + "|" + HEAD, 1);
        bad(label, HEAD + FIELD + MAN + VOTER + "|" + HEAD, 1);
        good(label, HEAD).due("count(8) count(3) count(4) count(5) count(6)", 1, 0, 0, 0, 0);
    }

    private static void menAheadOfVoters() {
        String label = "Promise 4, Terms I: all men stand ahead of all voters";
        bad(label, HEAD + VOTER + "|" + MAN, 1);
        bad(label, HEAD + MAN + VOTER + FIELD + "|" + MAN, 1);
        good(label, HEAD + MAN + FIELD + MAN + VOTER + FIELD + VOTER + "hedge 0 1;")
                .due("count(3) count(4) count(5) count(6) count(8)", 2, 1, 2, 2, 8);
        good("Promise 4, Terms I: voters without men", HEAD + VOTER).due("count(5) count(6)", 0, 1);
    }

    private static void numberedAsTheyStand() {
        good("Promise 4, Terms I: FIELDS, MEN, VOTERS are numbered as they stand", HEAD + "man frights 1 tires 2;"
                + "field corn 3 rooks 4;man frights 5 tires 6;voter hats 7 1;field corn 8 rooks 9;voter hats 2 0 1;")
                .due("man(0, 0) man(0, 1) man(1, 0) man(1, 1)", 1, 2, 5, 6)
                .due("field(0, 0) field(0, 1) field(1, 0) field(1, 1)", 3, 4, 8, 9)
                .due("hats(0) hats(1) wants(0, 0) wants(1, 0) wants(1, 1)", 7, 2, 1, 0, 1);
    }

    private static void tooMany() {
        String label = "Promise 5, FAULT 3: at its word";
        good(label, HEAD + FIELD.repeat(5)).due("count(3) field(4, 0)", 5, 1);
        bad(label, HEAD + FIELD.repeat(5) + "|" + FIELD, 3);
        bad(label, HEAD + FIELD.repeat(5) + " \n |field", 3);
        good(label, HEAD + FIELD.repeat(2) + HEDGE.repeat(8)).due("count(4)", 8);
        bad(label, HEAD + FIELD.repeat(2) + HEDGE.repeat(8) + "|" + HEDGE, 3);
        good(label, HEAD + MAN.repeat(5)).due("count(5) man(4, 0)", 5, 1);
        bad(label, HEAD + MAN.repeat(5) + "|" + MAN, 3);
        good(label, HEAD + VOTER.repeat(7)).due("count(6) hats(6)", 7, 1);
        bad(label, HEAD + VOTER.repeat(7) + "|" + VOTER, 3);
        good("Promise 4: as much of all as there can be", HEAD + FIELD.repeat(5) + HEDGE.repeat(8) + MAN.repeat(5)
                + "voter hats 9 4 3 2 1 0;".repeat(7))
                .due("count(8) count(3) count(4) count(5) count(6)", 26, 5, 8, 5, 7);
    }

    private static void blanks() {
        good("Promise 4, TOKENS: blanks 32 and 10 aside", " \n\n hundred\ndays\n\n4 law\n0 odds 0 \n ; \n")
                .due("count(0)", 4);
        good("Promise 4, TOKENS: no blank is needed at a sign", HEAD + FIELD + MAN + VOTER).due("count(8)", 4);
        for (int sign : new int[] {0, 1, 9, 11, 12, 13, 31, 33, 127}) {
            bad("Promise 5, TOKENS: no blank is sign " + sign, HEAD + " |" + (char) sign + " " + FIELD, 1);
            bad("Promise 5, TOKENS: no blank between is sign " + sign, "hundred|" + (char) sign + "days 4 law 0 odds 0;", 1);
        }
    }

    /** The signs beside a, z, 0, 9 and ; and great letters are no TOKENS. */
    private static void noTokens() {
        for (char sign : new char[] {'`', '{', '/', ':', '<', 'A', 'Z', 'H', '-', '+', ',', '.', '_', (char) 128, (char) 255}) {
            String label = "Promise 5, FAULT 1: a TOKEN that is none, " + (int) sign;
            bad(label, "|" + sign, 1);
            bad(label, HEAD + "|" + sign, 1);
            bad(label, "hundred days |" + sign + "4 law 0 odds 0;", 1);
            bad(label, "hundred days 4|" + sign + " law 0 odds 0;", 1);
            bad(label, "hundred days 4 law 0 odds 0|" + sign, 1);
            bad(label, HEAD + MAN + "voter hats 1 0 |" + sign + ";", 1);
            bad(label, "hundred|" + sign + " days 4 law 0 odds 0;", 1);
        }
        bad("Promise 5, FAULT 1: a great letter", "|Hundred days 4 law 0 odds 0;", 1);
    }

    private static void longestTokens() {
        String label = "Promise 4, TOKENS: the longest";
        good(label, "hundred days16law3odds10;field corn300rooks40;").due("count(0) field(0, 0) field(0, 1)", 16, 300, 40);
        bad(label, "|hundreddays 4 law 0 odds 0;", 1);
        bad(label, "hundred days 1 |6 law 0 odds 0;", 1);
        bad(label, "hundred |day s 1 law 0 odds 0;", 1);
        bad(label, "hundred |dayss 1 law 0 odds 0;", 1);
        bad(label, "|hundre d days 1 law 0 odds 0;", 1);
        bad(label, "|hundredz days 1 law 0 odds 0;", 1);
        bad(label, "|ahundred days 1 law 0 odds 0;", 1);
        bad(label, "hundred |zdays 1 law 0 odds 0;", 1);
        bad(label, HEAD + "|fields corn 1 rooks 1;", 1);
        bad(label, HEAD + "|fiel corn 1 rooks 1;", 1);
        bad(label, HEAD + "|men frights 1 tires 1;", 1);
        bad(label, HEAD + MAN.repeat(2) + "voter hats 1 |10;", 2);
        good(label, HEAD + MAN.repeat(2) + "voter hats 1 1 0;").due("wants(0, 0) wants(0, 1)", 1, 0);
        bad(label, HEAD + FIELD.repeat(2) + "hedge 01|;", 1);
    }

    /** Each word with one letter changed, the first, the last or one between. */
    private static void otherWords() {
        String text = "hundred days 4 law 0 odds 0;field corn 1 rooks 1;field corn 1 rooks 1;hedge 0 1;"
                + "man frights 1 tires 1;voter hats 1 0;";
        int start = -1;
        for (int n = 0; n < text.length(); n++) {
            if (!Character.isLetter(text.charAt(n))) {
                start = -1;
                continue;
            }
            start = start < 0 ? n : start;
            char other = text.charAt(n) == 'a' ? 'b' : 'a';
            bad("Promise 5, FAULT 1: another word", text.substring(0, start) + "|" + text.substring(start, n) + other
                    + text.substring(n + 1), 1);
        }
    }

    /** At each place of each LINE another TOKEN. */
    private static void cantStandThere() {
        String label = "Promise 5, FAULT 1: can't stand there";
        for (String head : new String[] {"hundred |4 law 0 odds 0;", "hundred |law 0 days 4 odds 0;", "hundred |;",
            "hundred days |law 0 odds 0;", "hundred days |;", "hundred days 4 |0 odds 0;", "hundred days 4 |odds 0 law 0;",
            "hundred days 4 law |odds 0;", "hundred days 4 law |;", "hundred days 4 law 0 |0;", "hundred days 4 law 0 |;",
            "hundred days 4 law 0 odds |;", "hundred days 4 law 0 odds |x;", "hundred days 4 law 0 odds 0 |0;",
            "hundred days 4 law 0 odds 0 |field corn 1 rooks 1;"}) {
            bad(label, head, 1);
        }
        for (String line : new String[] {"|;", "|4;", "|corn 1;", "field |;", "field |1 rooks 1;", "field |rooks 1 corn 1;",
            "field corn |;", "field corn |rooks 1;", "field corn 1 |;", "field corn 1 |1;", "field corn 1 |corn 1;",
            "field corn 1 rooks |;", "field corn 1 rooks |x;", "field corn 1 rooks 1 |1;", "field corn 1 rooks 1 |man;",
            "man |;", "man |1 tires 1;", "man |tires 1 frights 1;", "man frights |;", "man frights |tires 1;",
            "man frights 1 |;", "man frights 1 |1;", "man frights 1 tires |;", "man frights 1 tires 1 |1;",
            "voter |;", "voter |1;", "voter |hat 1;", "voter hats |;", "voter hats |voter;", "voter hats 1 |hats;",
            "voter hats 1 |voter hats 1;"}) {
            bad(label, HEAD + line, 1);
        }
        for (String line : new String[] {"hedge |;", "hedge |field 0;", "hedge 0 |;", "hedge 0 |x;", "hedge 0 1 |0;",
            "hedge 0 1 |hedge 0 1;"}) {
            bad(label, HEAD + FIELD + FIELD + line, 1);
        }
        bad(label, HEAD + MAN + "voter hats 1 0 |x;", 1);
    }

    private static void firstByItsPlace() {
        String label = "Promise 5, FAULTS: the first by its place";
        bad(label, "hundred days |0 law 9 odds 99; @", 2);
        bad(label, "hundred |@ 0 law 9;", 1);
        bad(label, HEAD + "field corn |301 rooks 41; @", 2);
        bad(label, HEAD + "field corn 1 |@ 301;", 1);
        bad(label, HEAD + FIELD.repeat(5) + "|field corn 301 rooks @", 3);
        bad(label, HEAD + FIELD.repeat(2) + HEDGE.repeat(8) + "|hedge 0 0;", 3);
        bad(label, HEAD + FIELD.repeat(2) + HEDGE.repeat(7) + "hedge 0 |0;" + HEDGE, 2);
        bad(label, HEAD + VOTER.repeat(7) + "|voter hats 0;", 3);
        bad(label, HEAD + "voter hats |0 7;", 2);
        bad(label, HEAD + VOTER + "|man frights 41;", 1);
        bad(label, "   hundred|4 days 0;", 1);
    }

    private static void leastOfOnePlace() {
        String label = "Promise 5, FAULTS: of one place the least";
        bad(label, HEAD + MAN.repeat(5) + VOTER + "|" + MAN, 1);
        bad(label, HEAD + MAN.repeat(5) + VOTER.repeat(7) + "|" + MAN, 1);
        bad(label, HEAD + MAN.repeat(5) + VOTER.repeat(7) + "|" + VOTER, 3);
    }

    /** Every beginning of a text: whole LINES are told, else the FAULT is at the end, or at a word that is cut off. */
    private static void prefixes() {
        String text = "hundred days 12 law 3 odds 10; field corn 300 rooks 40;field corn 1 rooks 1 ;hedge 0 1;\n"
                + "man frights 40 tires 9; voter hats 9 0 ; ";
        int lines = 0;
        int wordStart = -1;
        for (int n = 0; n <= text.length(); n++) {
            char last = n == 0 ? ' ' : text.charAt(n - 1);
            boolean inWord = Character.isLetter(last);
            if (!inWord) {
                wordStart = -1;
            } else if (wordStart < 0) {
                wordStart = n - 1;
            }
            lines += last == ';' ? 1 : 0;
            // what was cut off is behind the end
            Run x = new Run("Promise 5, FAULTS: the end's place, " + n + " bytes").feed(text).due("end(" + n + ")", n);
            String begun = text.substring(0, n).strip();
            boolean cut = inWord && n < text.length() && Character.isLetter(text.charAt(n));
            if (begun.isEmpty() || begun.endsWith(";")) {
                x.due("hundred() fault(0) fault(1) count(8)", lines, 0, -1, lines);
            } else {
                x.due("hundred() fault(0) fault(1) count(8)", -4, 1, cut ? wordStart : n, 0);
            }
        }
    }

    private static void noLines() {
        for (String text : new String[] {"", " ", "\n", " \n \n", " ".repeat(700)}) {
            Run.told("Promise 4: 0: there is none then", "hundred days 9 law 3 odds 9;" + FIELD + MAN + VOTER).after("speaks(0, 0) puts(0, 0)").feed(text)
                    .due("hundred() fault(0) fault(1)", 0, 0, -1)
                    .each(0, "count(0) count(1) count(2) count(3) count(4) count(5) count(6) count(7) count(8) count(9)")
                    .each(-2, "beats() plain() kept() best() law() undo() anew() all(0) field(0, 0) man(0, 0) hats(0) drawn(1, 0)"
                            + "elects(0, 0) speaks(0, 0) puts(0, 0)");
        }
    }

    private static void tapeBecomesHundred() {
        String label = "Promise 4: in place of another, nothing done, the TAPE is empty then";
        Run.told(label, "hundred days 9 law 3 odds 9;" + FIELD.repeat(3) + HEDGE + MAN.repeat(2) + "voter hats 5 1 0;")
                .after("rate(0, 9) puts(1, 1) speaks(0, 1) row(1, 2, 3) image(2)")
                .due("count(7)", 2).feed("hundred days 2 law 1 odds 3;field corn 5 rooks 2;" + MAN + "voter hats 3;")
                .due("hundred() count(7) count(8) count(9) undo()", 4, 0, 4, 0, -5)
                .due("count(0) count(1) count(2) count(3) count(4) count(5) count(6)", 2, 1, 3, 1, 0, 1, 1)
                .due("field(0, 0) field(1, 0) hedges(0) man(0, 0) man(1, 0) wants(0, 0)", 5, -2, 0, 1, -2, -1)
                .due("stands(0) where(0) fear(0, 1) elected(0)", 0, 0, 0, 0)
                .due("count(10) write(1, 2, 0) write(1, 3, 0) back(2) count(7) count(0)", 1, 0, -7, 0, 2, 9);
        Run.told(label, HEAD).due("hundred() count(8)", 0, 0);
        Run x = new Run(label).feed(HEAD + HEAD.substring(0, 27)).due("hundred() end(28) hundred() count(9) count(8)",
                -4, 28, 1, 0, 1);
        x.feed(HEAD).due("count(9) hundred()", 28, 1);
    }

    private static void allStays() {
        Run.told("Promise 4: -4: all stays", HEAD + FIELD.repeat(2) + HEDGE + MAN.repeat(2) + "voter hats 3 1;")
                .after("rate(0, 9) image(1) puts(0, 0) speaks(1, 2) row(2, 1, 6)")
                .feed("hundred days 1 law 1 odds 1;field corn 9 rooks 9;man frights 9 tires 9;voter hats 9;!")
                .due("hundred() fault(0) fault(1)", -4, 1, 84)
                .due("count(9) count(7) count(8) count(10)", 85, 2, 7, 1)
                .due("count(0) count(1) count(2) count(3) count(4) count(5) count(6)", 4, 0, 0, 2, 1, 2, 1)
                .due("field(0, 0) hedges(0) man(0, 0) man(1, 0) hats(0) wants(0, 0)", 1, 2, 9, 1, 3, 1)
                .due("stands(0) stands(1) fear(0, 0) write(2, 5, 0) write(2, 6, 0)", 0, -1, 9, 0, -7)
                .due("undo() undo() stands(0) back(0) back(1) count(7)", 1, 0, 1, -6, 0, 0)
                .due("end(84) hundred() count(0) count(7)", 84, 4, 1, 0);
    }
}
