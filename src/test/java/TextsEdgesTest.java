/** The boundary cases of promises 29 to 31, a method for each sentence that names one. */
public final class TextsEdgesTest {
    private static final int UNKNOWN = -1, OUTSIDE = -2, NONE = -9;
    private static final int LOW = Integer.MIN_VALUE, HIGH = Integer.MAX_VALUE;

    public static void main(String[] args) {
        textShortestAndLongest();
        textBodiesOfOneTwoThreeFigures();
        textPlusBetweenEachTwo();
        textSignsEnds();
        textOfNoSum();
        rowsOfNone();
        rowsLongest();
        rowsBetweenEachTwo();
        rowsSignsEnds();
        manyEnds();
        manyOfNothingAndOfAll();
        manyRefusedCountsNothing();
        Due.end();
    }

    /** Every sign of a text, how many there are, and none behind the last. */
    private static void dueText(Calls x, int set, String want) {
        x.due("text", want.length(), set, -1);
        for (int i = 0; i < want.length(); i++) {
            x.due("text", want.charAt(i), set, i);
        }
        x.due("text", NONE, set, want.length());
        x.due("text", NONE, set, 39);
    }

    /** 29: one LETTER and a BODY of one figure; all ten and a BODY of three. */
    private static void textShortestAndLongest() {
        Calls x = new Calls();
        x.ask("letter", 0, 0);
        dueText(x, 1, "0 0");
        for (int l = 0; l < 10; l++) {
            x.ask("letter", l, l < 8 ? 1 << l : 0);
        }
        dueText(x, 1023, "0+1+2+3+4+5+6+7+8+9 255");
        dueText(x, 512, "9 0");
    }

    /** 29: "its BODY as a number": no figure 0 ahead, one figure for 0. */
    private static void textBodiesOfOneTwoThreeFigures() {
        int[] bodies = {0, 1, 9, 10, 11, 90, 99, 100, 101, 109, 110, 199, 200, 250, 255};
        for (int body : bodies) {
            Calls x = new Calls();
            x.ask("letter", 9, body);
            dueText(x, 512, "9 " + body);
        }
    }

    /** 29: "its LETTERS as figures, by number, + (43) between each two, then a blank (32)". */
    private static void textPlusBetweenEachTwo() {
        Calls x = new Calls();
        for (int l = 9; l >= 0; l--) {
            x.ask("letter", l, l);
        }
        dueText(x, 513, "0+9 9");
        dueText(x, 3, "0+1 1");
        dueText(x, 768, "8+9 1");
        dueText(x, 0b0101010101, "0+2+4+6+8 8");
        x.due("text", 43, 3, 1);
        x.due("text", 32, 3, 3);
    }

    /** 29: "NONE: it has not so many. OUTSIDE: .. i (-1 .. 39)". */
    private static void textSignsEnds() {
        Calls x = new Calls().letters(10);
        for (int set : new int[] {1, 1023}) {
            for (int i : new int[] {-2, 40, 41, LOW, HIGH}) {
                x.due("text", OUTSIDE, set, i);
            }
            x.due("text", 48, set, 0);
            x.due("text", NONE, set, 38);
            x.due("text", NONE, set, 39);
        }
    }

    /** 29: "OUTSIDE: the set is no SUM". */
    private static void textOfNoSum() {
        Calls x = new Calls().letters(10);
        for (int set : new int[] {0, -1, 1024, 1025, LOW, HIGH}) {
            x.due("text", OUTSIDE, set, -1);
            x.due("text", OUTSIDE, set, 0);
            x.due("text", OUTSIDE, set, 40);
        }
        x.ask("drop", 9);
        x.due("text", OUTSIDE, 512, -1);
        x.due("text", OUTSIDE, 1023, 39);
        x.due("text", 21, 511, -1);
    }

    /** 30: a NODE without ROWS: an empty text. */
    private static void rowsOfNone() {
        Calls x = new Calls();
        x.ask("open", 5, -1);
        for (int node = 1; node < 4; node++) {
            x.due("rows", 0, 0, node, -1);
            x.due("rows", NONE, 0, node, 0);
            x.due("rows", NONE, 0, node, 59);
            x.due("rows", OUTSIDE, 0, node, 60);
            x.due("rows", OUTSIDE, 0, node, -2);
        }
    }

    /** 30: five ROWS of five numbers; the figures that are greatest. */
    private static void rowsLongest() {
        Calls x = new Calls().field("seven");
        x.ask("open", 5, -1);
        x.dueRows(30, 0, 0, "10000:333 01000:333 00100:333 00010:333 00001:333");
        x.due("rows", 49, 0, 0, -1);
        x.due("rows", '3', 0, 0, 48);
        x.due("rows", NONE, 0, 0, 49);
        x.due("rows", NONE, 0, 0, 59);
        // 1 time ROW 0 and 6 times each other: SIGNS 3 and 4 times 18, by 7
        x.ask("mix", 0, 0, 1, 1 + 6 * (7 + 49 + 343 + 2401));
        x.dueRows(30, 0, 1, "16666:555");
    }

    /** 30: "a colon (58)", "a blank (32) between each two": none ahead of the first, none behind the last. */
    private static void rowsBetweenEachTwo() {
        Calls x = new Calls();
        x.ask("open", 1, 63);
        x.dueRows(30, 0, 0, "1:111");
        x.due("rows", 58, 0, 0, 1);
        x.ask("open", 2, 0);
        x.dueRows(30, 1, 0, "10:000 01:000");
        x.due("rows", 32, 1, 0, 6);
        for (int n = 1; n <= 5; n++) {
            Calls y = new Calls();
            y.ask("open", n, 0);
            y.due("rows", n * (n + 4) + n - 1, 0, 0, -1);
            y.due("rows", '1', 0, 0, 0);
            y.due("rows", '0', 0, 0, n * (n + 5) - 2);
            y.due("rows", NONE, 0, 0, n * (n + 5) - 1);
        }
    }

    /** 30: "UNKNOWN: GENERATION, NODE; OUTSIDE: i (-1 .. 59)". */
    private static void rowsSignsEnds() {
        Calls x = new Calls();
        x.due("rows", UNKNOWN, 0, 0, -1);
        x.ask("open", 5, 0);
        for (int i : new int[] {-2, 60, 61, LOW, HIGH}) {
            x.due("rows", OUTSIDE, 0, 0, i);
            x.due(30, "UNKNOWN first", "rows", UNKNOWN, 0, 4, i);
            x.due(30, "UNKNOWN first", "rows", UNKNOWN, 1, 0, i);
        }
        x.due("rows", UNKNOWN, 0, -1, 0);
        x.due("rows", UNKNOWN, -1, 0, 0);
    }

    /** 31: what is 0 .. 8. */
    private static void manyEnds() {
        Calls x = new Calls();
        for (int what : new int[] {-1, 9, 10, LOW, HIGH}) {
            x.due("many", OUTSIDE, what);
        }
        x.due("many", 0, 0);
        x.due("many", 1, 8);
    }

    /** 31: each at its least and at its greatest. */
    private static void manyOfNothingAndOfAll() {
        Calls x = new Calls();
        int[] first = {0, 0, 0, 0, 2, 0, 0, 0, 1};
        for (int what = 0; what < 9; what++) {
            x.due("many", first[what], what);
        }
        x.field("seven").letters(10);
        for (int k = 0; k < 16; k++) {
            x.ask("want", k / 8, k % 8);
        }
        for (int k = 0; k < 4; k++) {
            x.ask("open", 1, 0);
        }
        x.keys("twelve codes and more");
        int[] all = {10, 16, 0, 0, 7, 3, 3, 12, 1};
        for (int what = 0; what < 9; what++) {
            x.due("many", all[what], what);
        }
        x.ask("send", 1);
        x.ask("send", 2);
        x.due(31, "two SENT", "many", 2, 2);
        x.due(31, "sixteen SERVED", "many", 16, 3);
        x.due("many", 0, 1);
    }

    /** 31, REFUSALS: "they change nothing". */
    private static void manyRefusedCountsNothing() {
        Calls x = new Calls();
        x.ask("letter", 10, 0);
        x.ask("letter", 0, 256);
        x.ask("want", 0, 0);
        x.ask("send", 1);
        x.ask("serve", 17);
        x.ask("key", 128);
        x.ask("word");
        x.ask("open", 6, 0);
        x.ask("draw", 0, 0, 1);
        int[] first = {0, 0, 0, 0, 2, 0, 0, 0, 1};
        for (int what = 0; what < 9; what++) {
            x.due("many", first[what], what);
        }
    }
}
