/** The edges of section 6: MERITS, ROUNDS, TOLERANCES, DRAWS: promises 38 to 45. */
public final class MeritEdgesTest {
    private static final int NONE = Edges.NONE, BAD = Edges.BAD, NO = Edges.NO, FULL = Edges.FULL;
    private static final int[] NO_MERITS = {-1, 4, Integer.MIN_VALUE, Integer.MAX_VALUE};

    private static void edge(String place, String sentence, Runnable test) {
        Edges.edge(place, sentence, test);
    }
    private static void due(String what, long got, long want) {
        Edges.due(what, got, want);
    }
    private static void fraction(String what, House x, int answered, long above, long below) {
        Edges.fraction(what, x, answered, above, below);
    }
    private static void bad(String what, Edges.Call call) {
        Edges.refused(Houses.RICH, what, call, BAD);
    }

    // ---- texts

    private static void rows(String text, int rows) {
        House x = new House();
        due("\"" + text + "\"", x.merit(0, text), rows);
        due("the tape is empty then", x.count(5), 0);
    }
    /** Wrong at a place; the MERIT stays as it was, THE TAPE does not. */
    private static void wrongAt(String text, int place) {
        House x = new House();
        x.lens(1);
        x.set(0, 0, 1, 4, 1);
        x.view(0, 0, 0);
        x.merit(0, "gap 0 = 1; gap 0 = 2");
        due("\"" + text + "\"", x.merit(0, text), -10 - place);
        due("the tape is empty then", x.count(5), 0);
        fraction("the merit stays", x, x.value(0), 13, 1);
    }

    private static void texts() {
        edge("p38", "MERITS 0 .. 3; BAD: no such one (THE TAPE stays)", () -> {
            for (int k = 0; k < 4; k++) {
                House x = new House();
                x.type("gap 0 = 1");
                due("merit " + k, x.merit(k), 1);
                due("the tape is empty then", x.count(5), 0);
            }
            for (int k : NO_MERITS) {
                bad("merit " + k, x -> x.merit(k));
            }
        });
        edge("p38", "each MERIT is its own", () -> {
            House x = new House();
            x.lens(1);
            x.view(0, 0, 0);
            for (int k = 0; k < 4; k++) {
                x.merit(k, "gap 0 = " + (k + 1));
            }
            for (int k = 0; k < 4; k++) {
                fraction("merit " + k, x, x.value(k), (k + 1) * (k + 1), 1);
            }
            x.merit(2, "gap 0 = 9");
            fraction("another text", x, x.value(2), 81, 1);
            fraction("the others stay", x, x.value(3), 16, 1);
        });
        edge("6", "an empty text is wrong at its end", () -> wrongAt("", 0));
        edge("6", "blanks alone are wrong at their end", () -> {
            wrongAt(" ", 1);
            wrongAt("\n", 1);
            wrongAt(" \n \n", 4);
        });
        edge("6", "at its end: each place where a text may break off", () -> {
            String text = "curve 9 = -1/2 by -3/4;gap 0<5";
            int[] whole = {text.length(), 22, 20, 14, 12};
            for (int end = 0; end <= text.length(); end++) {
                boolean good = false;
                for (int w : whole) {
                    good = good || w == end;
                }
                // a row is whole behind a number, blanks or not
                good = good || end == 15;
                String cut = text.substring(0, end);
                if (good) {
                    rows(cut, end > 23 ? 2 : 1);
                } else {
                    wrongAt(cut, brokenWord(cut));
                }
            }
        });
        edge("6", "every OPERAND", () -> {
            for (String word : new String[] {"focal", "back", "image", "mag", "number"}) {
                rows(word + "=1", 1);
                wrongAt(word + " 0=1", word.length() + 1);
                wrongAt(word + "0=1", word.length());
                wrongAt(word + "s=1", 0);
                wrongAt(word.substring(1) + "=1", 0);
                wrongAt("x" + word.substring(1) + "=1", 0);
                wrongAt(word.substring(0, word.length() - 1) + "x=1", 0);
                wrongAt(word.substring(0, word.length() - 1) + "=1", 0);
                wrongAt(word.toUpperCase() + "=1", 0);
            }
            for (String word : new String[] {"sum", "curve", "gap"}) {
                rows(word + " 0=1", 1);
                rows(word + "0=1", 1);
                wrongAt(word + "=1", word.length());
                wrongAt(word + " -1=1", word.length() + 1);
                wrongAt(word + " x=1", word.length() + 1);
                wrongAt(word + "s 0=1", 0);
                wrongAt(word.substring(1) + " 0=1", 0);
                wrongAt("x" + word.substring(1) + " 0=1", 0);
                wrongAt(word.substring(0, word.length() - 1) + "x 0=1", 0);
            }
            wrongAt("by = 1", 0);
            wrongAt("1 = 1", 0);
            wrongAt("= 1", 0);
            wrongAt("; gap 0 = 1", 0);
        });
        edge("6", "sum n: 0 .. 6", () -> {
            for (int n = 0; n <= 6; n++) {
                rows("sum " + n + " = 1", 1);
            }
            for (int n : new int[] {7, 8, 9, 10, 60, 999999999}) {
                wrongAt("sum " + n + " = 1", 4);
            }
        });
        edge("6", "curve n, gap n: 0 .. 9", () -> {
            for (int n = 0; n <= 9; n++) {
                rows("gap " + n + " = 1", 1);
                rows("curve " + n + " = 1", 1);
            }
            for (int n : new int[] {10, 11, 90, 999999999}) {
                wrongAt("gap " + n + " = 1", 4);
                wrongAt("curve " + n + " = 1", 6);
            }
        });
        edge("6", "n: at most 9 digits", () -> {
            rows("sum 000000006 = 1", 1);
            wrongAt("sum 0000000006 = 1", 4);
            rows("gap 000000009 = 1", 1);
            wrongAt("gap 0000000009 = 1", 4);
            wrongAt("gap 000000010 = 1", 4);
        });
        edge("6", "NUMBER: at most 9 digits above", () -> {
            rows("gap 0 = 999999999", 1);
            rows("gap 0 = -999999999", 1);
            wrongAt("gap 0 = 1000000000", 8);
            wrongAt("gap 0 = -1000000000", 9);
            rows("gap 0 = 000000001", 1);
            wrongAt("gap 0 = 0000000001", 8);
            wrongAt("gap 0 = " + "9".repeat(390), 8);
        });
        edge("6", "NUMBER: at most 9 digits below", () -> {
            rows("gap 0 = 1/999999999", 1);
            wrongAt("gap 0 = 1/1000000000", 10);
            rows("gap 0 = 1/000000001", 1);
            wrongAt("gap 0 = 1/0000000001", 10);
        });
        edge("6", "NUMBER: at most 9 digits behind by, too", () -> {
            rows("gap 0 = 1 by 999999999/999999999", 1);
            wrongAt("gap 0 = 1 by 1000000000", 13);
            wrongAt("gap 0 = 1 by 1/1000000000", 15);
            wrongAt("gap 0 = 1 by -1000000000", 14);
        });
        edge("6", "NUMBER: below above 0", () -> {
            rows("gap 0 = 0", 1);
            rows("gap 0 = -0", 1);
            rows("gap 0 = 0/1", 1);
            wrongAt("gap 0 = 1/0", 10);
            wrongAt("gap 0 = 0/0", 10);
            wrongAt("gap 0 = 1 / 000000000", 12);
            wrongAt("gap 0 = 1/-1", 10);
            wrongAt("gap 0 = 1 by 1/0", 15);
            rows("gap 0 = 1 by 0", 1);
        });
        edge("6", "NUMBER: one - in front alone", () -> {
            rows("gap 0 = - 1", 1);
            wrongAt("gap 0 = --1", 9);
            wrongAt("gap 0 = 1-", 9);
            wrongAt("gap 0 = -", 9);
            wrongAt("gap 0 = -/1", 9);
            wrongAt("gap 0 = /1", 8);
            wrongAt("gap 0 = 1//2", 10);
            wrongAt("gap 0 = 1/2/3", 11);
        });
    }
    /** Where a text that breaks off is wrong: at its end, but for a WORD that is only begun. */
    private static int brokenWord(String cut) {
        for (String begun : new String[] {"c", "cu", "cur", "curv"}) {
            if (cut.equals(begun)) {
                return 0;
            }
        }
        for (String begun : new String[] {"b"}) {
            if (cut.endsWith(" " + begun)) {
                return cut.length() - 1;
            }
        }
        if (cut.endsWith(";g") || cut.endsWith(";ga")) {
            return cut.indexOf(';') + 1;
        }
        return cut.length();
    }

    private static void tokens() {
        edge("6", "each of 256 bytes: what can stand behind an OPERAND", () -> {
            for (int b = 0; b < 256; b++) {
                String text = "focal" + (char) b + "= 1";
                if (b == 32 || b == 10) {
                    rows(text, 1);
                } else if (b >= 'a' && b <= 'z') {
                    wrongAt(text, 0);
                } else if (b == '=' || b == '<' || b == '>') {
                    wrongAt(text, 6);
                } else {
                    wrongAt(text, 5);
                }
            }
        });
        edge("6", "each of 256 bytes: what can stand behind a NUMBER", () -> {
            for (int b = 0; b < 256; b++) {
                String text = "gap 0=1" + (char) b;
                if (b == 32 || b == 10 || b >= '0' && b <= '9') {
                    rows(text, 1);
                } else if (b == '/' || b == ';') {
                    wrongAt(text, 8);
                } else {
                    wrongAt(text, 7);
                }
            }
        });
        edge("6", "each of 256 bytes: what a text can begin with", () -> {
            for (int b = 0; b < 256; b++) {
                String text = (char) b + "gap 0=1";
                if (b == 32 || b == 10) {
                    rows(text, 1);
                } else {
                    wrongAt(text, 0);
                }
            }
        });
        edge("6", "blanks: 32 and 10 alone", () -> {
            rows(" \n gap \n 0 \n = \n - \n 1 \n / \n 2 \n by \n 3 \n ; \n gap 0 = 1 \n ", 2);
            wrongAt("gap 0 =\t1", 7);
            wrongAt("gap 0 =\r1", 7);
            wrongAt("gap 0 =\u000b1", 7);
            wrongAt("gap 0 =\u00a01", 7);
        });
        edge("6", "a blank parts digits and WORDS", () -> {
            wrongAt("fo cal = 1", 0);
            wrongAt("gap 0 = 1 2", 10);
            wrongAt("gap 1 0 = 1", 6);
            wrongAt("gap 0 = 1 b y 2", 10);
        });
        edge("6", "= < > each alone", () -> {
            rows("gap 0 = 1", 1);
            rows("gap 0 < 1", 1);
            rows("gap 0 > 1", 1);
            wrongAt("gap 0 <= 1", 7);
            wrongAt("gap 0 >= 1", 7);
            wrongAt("gap 0 1", 6);
            wrongAt("gap 0 - 1", 6);
        });
        edge("6", "by: at most once, with a NUMBER", () -> {
            rows("gap 0 = 1 by 2", 1);
            rows("gap 0 = 1by2", 1);
            wrongAt("gap 0 = 1 by", 12);
            wrongAt("gap 0 = 1 by ;", 13);
            wrongAt("gap 0 = 1 by 2 by 3", 15);
            wrongAt("gap 0 = 1 bye 2", 10);
            wrongAt("gap 0 = 1 b 2", 10);
            wrongAt("gap 0 = by 2", 8);
        });
        edge("6", "a ROW behind each ;", () -> {
            rows("gap 0=1;gap 0=2", 2);
            wrongAt("gap 0=1;", 8);
            wrongAt("gap 0=1; ", 9);
            wrongAt("gap 0=1;;gap 0=2", 8);
            wrongAt("gap 0=1 gap 0=2", 8);
        });
        edge("6", "at most 10 ROWS: the first TOKEN of ROW 11", () -> {
            String row = "gap 0=1;";
            for (int n = 1; n <= 10; n++) {
                rows(row.repeat(n - 1) + "gap 0=1", n);
            }
            wrongAt(row.repeat(10) + "gap 0=1", 80);
            wrongAt(row.repeat(10) + " \n gap 0=1", 83);
            wrongAt(row.repeat(10) + "?", 80);
            wrongAt(row.repeat(10), 80);
            wrongAt(row.repeat(10) + "  ", 82);
            wrongAt(row.repeat(9) + "gap 0=", 78);
        });
        edge("6", "a text of 400 bytes, wrong at its last one and at its end", () -> {
            rows("gap 0=1" + " ".repeat(393), 1);
            rows(" ".repeat(393) + "gap 0=1", 1);
            wrongAt("gap 0=1" + " ".repeat(392) + "?", 399);
            wrongAt("gap 0=1" + " ".repeat(392) + ";", 400);
            wrongAt(" ".repeat(399) + "g", 399);
        });
        edge("6", "the first TOKEN that can not stand there, not a later one", () -> {
            wrongAt("foc ? = 1", 0);
            wrongAt("gap 99 ?", 4);
            wrongAt("gap 0 = 1/0 ?", 10);
        });
        edge("p38", "what is refused by merit() changes THE TAPE alone", () -> {
            House x = Houses.RICH.house();
            x.type(" ?");
            due("wrong", x.merit(0), -10 - 10);
            due("the tape", x.count(5), 0);
            Maker without = new Maker(() -> {
                House y = Houses.RICH.house();
                y.cut(0);
                return y;
            });
            Edges.refused(without, "an empty one", h -> h.merit(0), -10);
            due("moves", x.count(1), 37);
            fraction("the merit stays", x, x.value(2), 9, 4900);
        });
    }

    // ---- VALUES

    /** One SURFACE with a GAP of 3. */
    private static House gap() {
        House x = new House();
        x.lens(1);
        x.set(0, 0, 1, 3, 1);
        x.view(0, 0, 0);
        return x;
    }
    private static void valueOf(String text, long above, long below) {
        House x = gap();
        x.merit(0, text);
        fraction(text, x, x.value(0), above, below);
    }
    private static void lostValue(String text) {
        House x = gap();
        x.merit(0, text);
        x.datum(0, 0, 1);
        Edges.lost(text, x, x.value(0));
    }

    private static void values() {
        edge("p39", "MERITS 0 .. 3", () -> {
            House x = gap();
            for (int k = 0; k < 4; k++) {
                fraction("without rows 0, " + k, x, x.value(k), 0, 1);
            }
            for (int k : NO_MERITS) {
                bad("merit " + k, h -> h.value(k));
            }
        });
        edge("6", "<: nothing of a ROW whose v is not above", () -> {
            valueOf("gap 0 < 2", 1, 1);
            valueOf("gap 0 < 3", 0, 1);
            valueOf("gap 0 < 4", 0, 1);
            valueOf("gap 0 < 299999999/100000000", 1, 10000000000000000L);
            valueOf("gap 0 < 300000001/100000000", 0, 1);
        });
        edge("6", ">: nothing of a ROW whose v is not below", () -> {
            valueOf("gap 0 > 4", 1, 1);
            valueOf("gap 0 > 3", 0, 1);
            valueOf("gap 0 > 2", 0, 1);
            valueOf("gap 0 > 300000001/100000000", 1, 10000000000000000L);
            valueOf("gap 0 > 299999999/100000000", 0, 1);
        });
        edge("6", "=: on both sides", () -> {
            valueOf("gap 0 = 2", 1, 1);
            valueOf("gap 0 = 3", 0, 1);
            valueOf("gap 0 = 4", 1, 1);
        });
        edge("6", "by: else 1; 0 and below 0, too", () -> {
            valueOf("gap 0 = 1", 4, 1);
            valueOf("gap 0 = 1 by 1/2", 2, 1);
            valueOf("gap 0 = 1 by 0", 0, 1);
            valueOf("gap 0 = 1 by -3", -12, 1);
            valueOf("gap 0 = 1 by -3; gap 0 = 1", -8, 1);
        });
        edge("6", "LOST: no such SURFACE", () -> {
            for (int m : new int[] {1, 4, 9}) {
                House x = new House();
                x.lens(m);
                x.view(0, 0, 0);
                x.merit(0, "gap " + (m - 1) + " = 0");
                x.merit(1, "curve " + (m - 1) + " = 0");
                x.merit(2, "gap " + m + " = 0");
                x.merit(3, "curve " + m + " = 0");
                fraction("the last one's gap", x, x.value(0), 0, 1);
                fraction("the last one's curve", x, x.value(1), 0, 1);
                Edges.lost("the next one's gap", x, x.value(2));
                Edges.lost("the next one's curve", x, x.value(3));
            }
            House x = new House();
            x.lens(10);
            x.view(0, 0, 0);
            x.merit(0, "gap 9 = 0; curve 9 = 0");
            fraction("of ten", x, x.value(0), 0, 1);
        });
        edge("6", "LOST, if a v is, also of a ROW with < or > or by 0", () -> {
            lostValue("mag = 1");
            lostValue("mag < 1");
            lostValue("mag > 1");
            lostValue("mag = 1 by 0");
            lostValue("gap 0 = 3; focal = 1");
            lostValue("gap 5 < 1; gap 0 = 3");
        });
        edge("6", "LOST, if the VALUE is: a square of 2^62 and more", () -> {
            House x = new House();
            x.lens(1);
            x.view(0, 0, 0);
            x.merit(0, "gap 0 = 0");
            x.set(0, 0, 1, (1L << 31) - 1, 1);
            fraction("just below", x, x.value(0), ((1L << 31) - 1) * ((1L << 31) - 1), 1);
            x.set(0, 0, 1, 1L << 31, 1);
            Edges.lost("2^62", x, x.value(0));
            x.set(0, 0, 1, -(1L << 31), 1);
            Edges.lost("of -2^31", x, x.value(0));
            x.set(0, 0, 1, 1, (1L << 31) - 1);
            fraction("below just below", x, x.value(0), 1, ((1L << 31) - 1) * ((1L << 31) - 1));
            x.set(0, 0, 1, 1, 1L << 31);
            Edges.lost("below 2^62", x, x.value(0));
            x.merit(0, "gap 0 = 0 by 0");
            Edges.lost("0 times it", x, x.value(0));
        });
        edge("6", "LOST, if the VALUE is: a sum of 2^62", () -> {
            House x = new House();
            x.lens(1);
            x.set(0, 0, 1, 1L << 30, 1);
            x.view(0, 0, 0);
            x.merit(0, "gap 0=0;gap 0=0;gap 0=0");
            fraction("three times 2^60", x, x.value(0), 3L << 60, 1);
            x.merit(0, "gap 0=0;gap 0=0;gap 0=0;gap 0=0");
            Edges.lost("four times", x, x.value(0));
            x.merit(0, "gap 0=0;gap 0=0;gap 0=0;gap 0=0;gap 0=0 by -4");
            Edges.lost("in order: four times, then less", x, x.value(0));
            x.merit(0, "gap 0=0 by -3;gap 0=0;gap 0=0;gap 0=0;gap 0=0");
            fraction("less first", x, x.value(0), 1L << 60, 1);
        });
        edge("6", "each OPERAND is its own", () -> {
            House x = thick(1);
            // FIRST 4, 5, 6, 7, 11; curves and a gap
            String[] words = {"focal", "back", "image", "mag", "number", "curve 0", "curve 1", "gap 0", "gap 1"};
            int[] firsts = {4, 5, 6, 7, 11};
            for (int i = 0; i < words.length; i++) {
                x.merit(0, words[i] + " = 0");
                int there = i < 5 ? x.first(firsts[i]) : x.worked(i == 6 || i == 8 ? 1 : 0, i < 7 ? 0 : 1);
                due("it is there", there, 1);
                long above = x.above();
                long below = x.below();
                fraction(words[i], x, x.value(0), above * above, below * below);
                for (int other = 0; other < i && i < 5; other++) {
                    x.first(firsts[other]);
                    Edges.due("not as another one", x.above() == above && x.below() == below, false);
                }
            }
        });
        edge("6", "sum n is THE SUM of term n, whatever was asked for before", () -> {
            for (int n = 0; n < 7; n++) {
                House x = thick(1);
                x.merit(0, "sum " + n + " = 0");
                int valued = x.value(0);
                long above = x.above();
                long below = x.below();
                due("it is there", valued, 1);
                due("term " + n, x.term(NONE, n), 1);
                due("its square, above", above, x.above() * x.above());
                due("its square, below", below, x.below() * x.below());
                x.set(0, 0, 0, 1, 3);
                due("there", x.value(0), 1);
                above = x.above();
                due("term " + n, x.term(NONE, n), 1);
                due("the square behind a change", above, x.above() * x.above());
            }
        });
        edge("6", "curve and gap as WORKED, for the VIEW's STATE", () -> {
            House x = Houses.RICH.house();
            x.cut(0);
            x.merit(3, "gap 2 = 0");
            // picked up twice from a gap of 5 in state 1, of 3 in state 0
            fraction("state 1", x, x.value(3), 100, 1);
            x.view(0, 0, 1);
            fraction("state 0", x, x.value(3), 36, 1);
        });
    }
    /** Curvatures 1 / below and -1/2 round a glass of 2, 1 thick, an OBJECT 4 away, the STOP behind. */
    private static House thick(int below) {
        House x = new House();
        x.glass(1, 0, 2, 1);
        x.glass(1, 1, 3, 1);
        x.glass(1, 2, 3, 2);
        x.lens(2);
        x.set(0, 0, 0, 1, below);
        x.set(0, 1, 0, -1, 2);
        x.set(0, 0, 1, 1, 1);
        x.set(0, 1, 1, 5, 1);
        x.behind(0, 0, 1);
        x.stop(0, 1);
        x.set(0, NONE, 4, 4, 1);
        x.set(0, NONE, 5, 1, 1);
        x.view(0, 0, 0);
        return x;
    }

    // ---- ROUNDS

    /** Two flat SURFACES, seen, and a MERIT 0. */
    private static House two(String text) {
        House x = new House();
        x.lens(2);
        x.view(0, 0, 0);
        x.merit(0, text);
        return x;
    }

    /** A GAP of 2^62 - 2^39, or turned about, and a second one of 1 / 2^39 of it: 2^23 - 1. */
    private static House distant(int sign) {
        House x = new House();
        x.lens(2);
        x.set(0, 0, 1, 1, 1);
        x.pick(0, 1, 1, 0, 1, 1L << 39);
        x.rewrite(1, sign * (Edges.FAR - (1L << 39)), 1);
        due("opening", x.open(), 3);
        x.view(0, 0, 0);
        return x;
    }

    private static void variables() {
        edge("p40", "at most 5: FULL", () -> {
            House x = two("gap 0 = 1");
            for (int i = 1; i <= 5; i++) {
                due("variable", x.vary(0, 1, 1, i), i);
                due("count", x.count(3), i);
            }
            due("a sixth", x.vary(1, 0, 1, 1), FULL);
            due("count", x.count(3), 5);
            Maker five = new Maker(() -> {
                House y = Houses.RICH.house();
                for (int i = 0; i < 3; i++) {
                    y.vary(1, 0, 1, 2 + i);
                }
                return y;
            });
            Edges.refused(five, "a sixth", h -> h.vary(0, 0, 1, 1), FULL);
            Edges.refused(five, "BAD ahead of FULL: surface", h -> h.vary(4, 0, 1, 1), BAD);
            Edges.refused(five, "BAD ahead of FULL: sort", h -> h.vary(0, 2, 1, 1), BAD);
            Edges.refused(five, "BAD ahead of FULL: step", h -> h.vary(0, 0, 0, 1), BAD);
            due("tolerances have room", five.house().tolerance(0, 0, 1, 1), 3);
        });
        edge("p40", "SURFACES of the VIEW's LENS, sorts 0 and 1", () -> {
            due("the last surface", Houses.RICH.house().vary(3, 1, 1, 1), 3);
            for (int s : new int[] {-1, 4, 9, Integer.MIN_VALUE, Integer.MAX_VALUE}) {
                bad("surface " + s, h -> h.vary(s, 0, 1, 1));
            }
            for (int sort : new int[] {-1, 2, 3, 4, Integer.MIN_VALUE, Integer.MAX_VALUE}) {
                bad("sort " + sort, h -> h.vary(0, sort, 1, 1));
            }
        });
        edge("p42", "at most 6: FULL", () -> {
            House x = two("gap 0 = 1");
            for (int i = 1; i <= 6; i++) {
                due("tolerance", x.tolerance(0, 1, 1, i), i);
                due("count", x.count(4), i);
            }
            due("a seventh", x.tolerance(1, 0, 1, 1), FULL);
            due("count", x.count(4), 6);
            Maker six = new Maker(() -> {
                House y = Houses.RICH.house();
                for (int i = 0; i < 4; i++) {
                    y.tolerance(1, 0, 1, 200 + i);
                }
                return y;
            });
            Edges.refused(six, "a seventh", h -> h.tolerance(0, 0, 1, 1), FULL);
            Edges.refused(six, "BAD ahead of FULL: surface", h -> h.tolerance(4, 0, 1, 1), BAD);
            Edges.refused(six, "BAD ahead of FULL: sort", h -> h.tolerance(0, 2, 1, 1), BAD);
            Edges.refused(six, "BAD ahead of FULL: fraction", h -> h.tolerance(0, 0, 0, 1), BAD);
            due("variables have room", six.house().vary(0, 0, 1, 1), 3);
        });
        edge("p42", "SURFACES of the VIEW's LENS, sorts 0 and 1", () -> {
            due("the last surface", Houses.RICH.house().tolerance(3, 1, 1, 1), 3);
            for (int s : new int[] {-1, 4, 9, Integer.MIN_VALUE, Integer.MAX_VALUE}) {
                bad("surface " + s, h -> h.tolerance(s, 0, 1, 1));
            }
            for (int sort : new int[] {-1, 2, 3, 4, Integer.MIN_VALUE, Integer.MAX_VALUE}) {
                bad("sort " + sort, h -> h.tolerance(0, sort, 1, 1));
            }
        });
        edge("p45", "how many there were: none up to eleven", () -> {
            House x = two("gap 0 = 1");
            due("none", x.forget(), 0);
            for (int i = 0; i < 6; i++) {
                x.vary(0, 1, 1, 1);
                x.tolerance(0, 1, 1, 1);
            }
            due("5 and 6", x.forget(), 11);
            due("variables", x.count(3), 0);
            due("tolerances", x.count(4), 0);
            due("none again", x.forget(), 0);
            due("room again", x.vary(0, 1, 1, 1), 1);
            due("only variables", x.forget(), 1);
            due("without a view", new House().forget(), 0);
        });
    }

    private static void rounds() {
        edge("p41", "n 0 .. 20", () -> {
            for (int n = 0; n <= 20; n++) {
                House x = two("gap 0 = 999999");
                x.vary(0, 1, 1, 1);
                due(n + " rounds", x.rounds(0, n), n);
                due("moves", x.count(1), 1 + n);
                fraction("gap", x, x.datum(0, 0, 1), n, 1);
            }
            for (int n : new int[] {-1, 21, Integer.MIN_VALUE, Integer.MAX_VALUE}) {
                bad("n " + n, h -> h.rounds(0, n));
            }
        });
        edge("p41", "MERITS 0 .. 3", () -> {
            for (int k : NO_MERITS) {
                bad("merit " + k, h -> h.rounds(k, 1));
            }
            due("a merit without rows", two("gap 0 = 1").rounds(3, 2), 2);
        });
        edge("p41", "NO: the VALUE is not there, behind BAD", () -> {
            Maker maker = new Maker(() -> {
                House x = two("mag = 1");
                x.vary(0, 1, 1, 1);
                x.merit(1, "gap 0 = 5");
                return x;
            });
            Edges.refused(maker, "20 rounds", x -> x.rounds(0, 20), NO);
            Edges.refused(maker, "0 rounds", x -> x.rounds(0, 0), NO);
            Edges.refused(maker, "21 rounds", x -> x.rounds(0, 21), BAD);
            Edges.refused(maker, "-1 rounds", x -> x.rounds(0, -1), BAD);
            due("the other merit", maker.house().rounds(1, 1), 1);
        });
        edge("6", "they end at the 4th halving (its ROUND counts)", () -> {
            for (int n = 0; n <= 20; n++) {
                due("without variables, " + n, two("gap 0 = 1").rounds(0, n), Math.min(n, 4));
            }
        });
        edge("6", "the STEPS: whole, and by three halvings", () -> {
            // a step s from 0 betters the square to t if s is below 2 t
            House x = two("gap 0 = 1/16");
            x.vary(0, 1, 1, 1);
            due("1/8 is no better: 4 rounds", x.rounds(0, 20), 4);
            due("no move", x.count(1), 1);
            x = two("gap 0 = 1/15");
            x.vary(0, 1, 1, 1);
            due("1/8 is better: a fifth round ends it", x.rounds(0, 20), 5);
            due("one move", x.count(1), 2);
            fraction("gap", x, x.datum(0, 0, 1), 1, 8);
            x = two("gap 0 = 1/15");
            x.vary(0, 1, 1, 1);
            due("three rounds are too few", x.rounds(0, 3), 3);
            due("no move", x.count(1), 1);
            due("and the steps are whole again", x.rounds(0, 3), 3);
            due("no move", x.count(1), 1);
        });
        edge("6", "halvings are counted over all ROUNDS, also with MOVES between", () -> {
            // 1, 1/2, 1/4, 1/8 make 15/8: halvings behind rounds 2, 4, 6, 8
            House x = two("gap 0 = 2");
            x.vary(0, 1, 1, 1);
            due("2 in two rounds, then four halvings", x.rounds(0, 20), 6);
            x = two("gap 0 = 15/8");
            x.vary(0, 1, 1, 1);
            // 1, 2 (1/8 off), 1/2, 1/4, 1/8: 15/8
            due("rounds", x.rounds(0, 20), 7);
            fraction("gap", x, x.datum(0, 0, 1), 15, 8);
            due("moves", x.count(1), 4);
        });
        edge("6", "all STEPS are halved, only if no MOVE came of a ROUND", () -> {
            House x = two("gap 0 = 4; gap 1 = 1/2");
            x.vary(0, 1, 1, 1);
            x.vary(1, 1, 1, 1);
            // four rounds for the first one; then 1/2 for the second
            due("five rounds come to a half", x.rounds(0, 5), 5);
            fraction("no half yet", x, x.datum(0, 1, 1), 0, 1);
            due("whole steps again: one halving, then the half", x.rounds(0, 2), 2);
            fraction("the half", x, x.datum(0, 1, 1), 1, 2);
        });
        edge("6", "the VALUE must be less: an equal one makes no MOVE", () -> {
            House x = two("gap 0 = 1/2");
            x.vary(0, 1, 1, 1);
            due("one round", x.rounds(0, 1), 1);
            due("1 is as far as 0", x.count(1), 1);
            x = two("gap 1 = 1/2");
            x.vary(0, 1, 1, 1);
            due("nothing hangs on it", x.rounds(0, 20), 4);
            due("no move", x.count(1), 1);
        });
        edge("6", "and the STEP first, else less the STEP", () -> {
            House x = two("gap 0 = 1; gap 0 = -1");
            x.set(0, 0, 1, 1, 2);
            x.vary(0, 1, 1, 2);
            due("a round", x.rounds(0, 1), 1);
            fraction("less", x, x.datum(0, 0, 1), 0, 1);
            x = two("gap 0 = -3");
            x.vary(0, 1, 1, 1);
            x.rounds(0, 3);
            fraction("below 0", x, x.datum(0, 0, 1), -3, 1);
            // both sides better a VALUE that gets lower by the distance from 0
            x = two("gap 0 = 0 by -1");
            x.vary(0, 1, 1, 1);
            x.rounds(0, 1);
            fraction("more comes first", x, x.datum(0, 0, 1), 1, 1);
        });
        edge("6", "a VARIABLE whose datum is PICKED UP or SOLVED is passed over", () -> {
            House x = two("gap 1 = 5");
            x.set(0, NONE, 4, 1, 1);
            x.vary(1, 1, 1, 1);
            x.pick(0, 1, 1, 0, 1, 1);
            due("picked up", x.rounds(0, 20), 4);
            due("still", x.how(0, 1, 1), 1);
            x.solve(0, 1, 1, 3, 1);
            due("solved", x.rounds(0, 20), 4);
            due("still", x.how(0, 1, 1), 20);
            x.set(0, 1, 1, 0, 1);
            due("told", x.rounds(0, 5), 5);
            fraction("five on", x, x.datum(0, 1, 1), 5, 1);
        });
        edge("6", "a VALUE that is not there is none, on either side", () -> {
            // the steps' belows make sums of 2^62 and more
            House x = new House();
            x.lens(1);
            x.set(0, 0, 1, 1, (1L << 39) + 1);
            x.view(0, 0, 0);
            x.merit(0, "gap 0 < 1");
            x.vary(0, 1, 1, (1L << 39) - 1);
            due("rounds", x.rounds(0, 20), 4);
            due("no move", x.count(1), 2);
        });
        edge("6", "LOST on one side, the other side makes a MOVE", () -> {
            House x = distant(1);
            x.merit(0, "gap 1 = 0");
            x.vary(0, 1, 1L << 39, 1);
            due("a round", x.rounds(0, 1), 1);
            fraction("less, as more is 2^62", x, x.datum(0, 0, 1), Edges.FAR - (1L << 40), 1);
            x = distant(-1);
            x.merit(0, "gap 1 = 0");
            x.vary(0, 1, 1L << 39, 1);
            due("a round", x.rounds(0, 1), 1);
            fraction("more", x, x.datum(0, 0, 1), (1L << 40) - Edges.FAR, 1);
            x = distant(-1);
            x.merit(0, "gap 1 = -9000000");
            x.vary(0, 1, 1L << 39, 1);
            due("less would be better, but is -2^62", x.rounds(0, 1), 1);
            due("no move", x.count(1), 3);
        });
        edge("6", "in the ROUND in which a MOVE would come for which there is no room", () -> {
            for (int room = 0; room <= 3; room++) {
                House x = new House();
                x.lens(1);
                x.lens(3);
                Houses.fill(x, 0, 400 - room);
                x.view(1, 0, 0);
                x.merit(0, "gap 0 = 9; gap 1 = 9; gap 2 = 9");
                for (int s = 0; s < 3; s++) {
                    x.vary(s, 1, 1, 1);
                }
                due("with room for " + room, x.rounds(0, 20), room == 3 ? 2 : 1);
                due("moves", x.count(1), 400);
                for (int s = 0; s < 3; s++) {
                    fraction("gap " + s, x, x.datum(1, s, 1), s < room ? 1 : 0, 1);
                }
                due("again", x.rounds(0, 20), 1);
                due("none asked for", x.rounds(0, 0), 0);
                due("moves", x.count(1), 400);
            }
        });
        edge("6", "without room ROUNDS go on as long as no MOVE would come", () -> {
            House x = new House();
            x.lens(1);
            Houses.fill(x, 0, 400);
            x.merit(0, "gap 0 < 999999");
            x.vary(0, 1, 1, 1);
            due("four", x.rounds(0, 20), 4);
            due("three", x.rounds(0, 3), 3);
        });
        edge("p41", "five MOVES a ROUND, 100 in 20", () -> {
            House x = two("gap 0 = 999999");
            for (int i = 0; i < 5; i++) {
                x.vary(0, 1, 1, 1);
            }
            due("rounds", x.rounds(0, 20), 20);
            due("moves", x.count(1), 101);
            fraction("gap", x, x.datum(0, 0, 1), 100, 1);
            due("kind", x.move(100, 0), 1);
            due("before", x.move(100, 2), 99);
            due("surface", x.move(100, 3), 0);
            due("sort", x.move(100, 4), 1);
        });
    }

    // ---- TOLERANCES

    private static void worse() {
        edge("p43", "a TOLERANCE that there is", () -> {
            House x = two("gap 0 = 1");
            due("none", x.worse(0, 0, 0), BAD);
            for (int i = 0; i < 6; i++) {
                due("not yet", x.worse(i, 0, 0), BAD);
                x.tolerance(0, 1, 1 + i, 1);
                fraction("tolerance " + i, x, x.worse(i, 0, 0), i * i, 1);
            }
            due("6", x.worse(6, 0, 0), BAD);
            for (int t : new int[] {-1, 2, Integer.MIN_VALUE, Integer.MAX_VALUE}) {
                bad("tolerance " + t, h -> h.worse(t, 0, 0));
            }
        });
        edge("p43", "more (side 0) or less (1)", () -> {
            House x = two("gap 0 = 1");
            x.set(0, 0, 1, 3, 1);
            x.tolerance(0, 1, 1, 2);
            fraction("more", x, x.worse(0, 0, 0), 25, 4);
            fraction("less", x, x.worse(0, 1, 0), 9, 4);
            for (int side : new int[] {-1, 2, Integer.MIN_VALUE, Integer.MAX_VALUE}) {
                bad("side " + side, h -> h.worse(0, side, 0));
            }
        });
        edge("p43", "MERITS 0 .. 3; no MOVE is made", () -> {
            for (int k : NO_MERITS) {
                bad("merit " + k, h -> h.worse(0, 0, k));
            }
            House x = two("gap 0 = 1");
            x.tolerance(0, 1, 1, 2);
            fraction("a merit without rows", x, x.worse(0, 0, 3), 0, 1);
            due("moves", x.count(1), 1);
            fraction("the datum stays", x, x.datum(0, 0, 1), 0, 1);
            House full = Houses.FULL.house();
            due("with 400 moves, too", full.worse(0, 0, 0), 1);
        });
        edge("6", "a datum is told by that more, or less: the VALUE is that of a LENS so told", () -> {
            String[] words = {"focal", "back", "image", "mag", "number", "curve 0", "gap 0", "sum 0", "sum 1", "sum 2", "sum 3"};
            for (String word : words) {
                House x = thick(3);
                x.merit(0, word + " = 1");
                x.tolerance(0, 0, 2, 3);
                House told = thick(1);
                told.merit(0, word + " = 1");
                due(word + " is there", told.value(0), 1);
                fraction(word + " told by 2/3 more", x, x.worse(0, 0, 0), told.above(), told.below());
                House back = thick(1);
                back.merit(0, word + " = 1");
                back.tolerance(0, 0, 2, 3);
                House less = thick(3);
                less.merit(0, word + " = 1");
                due(word + " is there", less.value(0), 1);
                fraction(word + " told by 2/3 less", back, back.worse(0, 1, 0), less.above(), less.below());
            }
        });
        edge("6", "a datum that is PICKED UP or SOLVED stays", () -> {
            House x = two("gap 1 = 0");
            x.set(0, 0, 1, 3, 1);
            x.set(0, NONE, 4, 1, 1);
            x.tolerance(1, 1, 1, 1);
            x.pick(0, 1, 1, 0, 2, 1);
            fraction("picked up", x, x.worse(0, 0, 0), 36, 1);
            x.solve(0, 1, 1, 9, 1);
            // y is 4 there
            fraction("solved", x, x.worse(0, 0, 0), 25, 1);
            x.set(0, 1, 1, 7, 1);
            fraction("told", x, x.worse(0, 0, 0), 64, 1);
        });
        edge("6", "one whose SUM is LOST is LOST, the VALUE only where a ROW asks for what hangs on it", () -> {
            House x = new House();
            x.lens(2);
            x.set(0, 0, 1, 1, (1L << 39) + 1);
            x.view(0, 0, 0);
            x.merit(0, "gap 0 < 1");
            x.merit(1, "gap 1 = 2; curve 0 = 0");
            x.tolerance(0, 1, 1, (1L << 39) - 1);
            Edges.lost("what hangs on it", x, x.worse(0, 0, 0));
            Edges.lost("on the other side", x, x.worse(0, 1, 0));
            fraction("what does not", x, x.worse(0, 0, 1), 4, 1);
            due("draws of the first", x.draws(7, 1, 0, 100, 1), 0);
            due("draws of the second", x.draws(7, 1, 1, 4, 1), 7);
            x.forget();
            x.tolerance(0, 1, 1, (1L << 39) + 1);
            fraction("a sum that is there", x, x.worse(0, 0, 0), 0, 1);
        });
    }

    private static void draws() {
        edge("p44", "n 0 .. 60", () -> {
            House x = two("gap 0 = 1");
            for (int n : new int[] {0, 1, 59, 60}) {
                due(n + " draws", x.draws(n, 5, 0, 1, 1), n);
            }
            for (int n : new int[] {-1, 61, Integer.MIN_VALUE, Integer.MAX_VALUE}) {
                bad("n " + n, h -> h.draws(n, 5, 0, 1, 1));
            }
        });
        edge("p44", "MERITS 0 .. 3; a limit as fractions are told", () -> {
            for (int k : NO_MERITS) {
                bad("merit " + k, h -> h.draws(1, 5, k, 1, 1));
            }
            bad("below 0", h -> h.draws(1, 5, 0, 1, 0));
            bad("2^40", h -> h.draws(1, 5, 0, Edges.TOLD, 1));
            bad("of no draws, too", h -> h.draws(0, 5, 0, 1, 0));
        });
        edge("6", "counted are those not above the limit", () -> {
            House x = two("gap 0 = 2");
            due("4 and 4", x.draws(10, 5, 0, 4, 1), 10);
            due("just below", x.draws(10, 5, 0, 399999999999L, 100000000000L), 0);
            due("just above", x.draws(10, 5, 0, 400000000001L, 100000000000L), 10);
            due("a limit of 0", x.draws(10, 5, 0, 0, 1), 0);
            due("below 0", x.draws(10, 5, 0, -1, 1), 0);
            x.merit(1, "gap 0 = 2 by -1");
            due("a VALUE below 0", x.draws(10, 5, 1, -4, 1), 10);
            due("just not", x.draws(10, 5, 1, -400000000001L, 100000000000L), 0);
        });
        edge("6", "counted are those whose VALUE is there", () -> {
            House x = two("mag = 1");
            due("LOST", x.draws(60, 5, 0, Edges.TOLD - 1, 1), 0);
        });
        edge("6", "z >>> 63 by seeds at every end of a long", () -> {
            for (long seed : new long[] {0, 1, -1, Long.MAX_VALUE, Long.MIN_VALUE, 1442695040888963407L, -1442695040888963407L}) {
                House x = two("gap 0 = 1");
                x.tolerance(0, 1, 1, 1);
                long z = seed;
                int more = 0;
                for (int i = 0; i < 60; i++) {
                    z = z * 6364136223846793005L + 1442695040888963407L;
                    more += z >>> 63 == 1 ? 1 : 0;
                    if (i < 3) {
                        due("seed " + seed + ", " + (i + 1), x.draws(i + 1, seed, 0, 0, 1), more);
                    }
                }
                // 1 is just right, -1 is 4 off
                due("seed " + seed, x.draws(60, seed, 0, 0, 1), more);
                due("the same again", x.draws(60, seed, 0, 0, 1), more);
                due("all within 4", x.draws(60, seed, 0, 4, 1), 60);
            }
        });
        edge("6", "all six at once, those of one datum one upon the other", () -> {
            House x = two("gap 0 = 0");
            for (int i = 0; i < 6; i++) {
                x.tolerance(0, 1, 1L << i, 1);
            }
            long z = 77;
            int counted = 0;
            for (int i = 0; i < 60; i++) {
                long gap = 0;
                for (int t = 0; t < 6; t++) {
                    z = z * 6364136223846793005L + 1442695040888963407L;
                    gap += z >>> 63 == 1 ? 1L << t : -(1L << t);
                }
                counted += gap * gap <= 400 ? 1 : 0;
            }
            due("draws", x.draws(60, 77, 0, 400, 1), counted);
            Edges.due("neither none nor all", counted > 0 && counted < 60, true);
            due("the datum stays", x.datum(0, 0, 1), 1);
            due("at 0", x.above(), 0);
            due("no moves", x.count(1), 1);
        });
        edge("6", "one upon the other: a SUM that is LOST stays so, whatever comes upon it", () -> {
            House x = distant(1);
            x.merit(0, "gap 1 = 8388607");
            x.tolerance(0, 1, 1L << 39, 1);
            x.tolerance(0, 1, 1L << 39, 1);
            long z = 3;
            int less = 0;
            int both = 0;
            for (int i = 0; i < 60; i++) {
                z = z * 6364136223846793005L + 1442695040888963407L;
                boolean first = z >>> 63 == 0;
                z = z * 6364136223846793005L + 1442695040888963407L;
                less += first ? 1 : 0;
                both += first && z >>> 63 == 1 ? 1 : 0;
            }
            due("all that begin with less", x.draws(60, 3, 0, 4, 1), less);
            due("less, then more", x.draws(60, 3, 0, 0, 1), both);
            Edges.due("there are all sorts", both > 0 && both < less && less < 60, true);
        });
        edge("6", "a TOLERANCE that stays draws all the same", () -> {
            House x = two("gap 0 = 1");
            x.pick(0, 1, 1, 0, 1, 1);
            x.tolerance(1, 1, 1, 1);
            x.tolerance(0, 1, 1, 1);
            long z = 12;
            int more = 0;
            for (int i = 0; i < 60; i++) {
                z = z * 6364136223846793005L + 1442695040888963407L;
                z = z * 6364136223846793005L + 1442695040888963407L;
                more += z >>> 63 == 1 ? 1 : 0;
            }
            due("draws", x.draws(60, 12, 0, 0, 1), more);
        });
    }

    public static void main(String[] args) {
        texts();
        tokens();
        values();
        variables();
        rounds();
        worse();
        draws();
        Edges.end("6", "p38", "p39", "p40", "p41", "p42", "p43", "p44", "p45");
    }
}
