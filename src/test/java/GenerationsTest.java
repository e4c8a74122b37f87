/** Promises 16 to 28: the tape, the field, generations. */
public final class GenerationsTest {
    public static void main(String[] args) {
        key();
        wipe();
        word();
        wordForgets();
        open();
        openSigns();
        rank();
        row();
        read();
        mix();
        mixOnTheWay();
        draw();
        fresh();
        forAll();
        forAllOfTwo();
        sweep();
        opened();
        Due.end();
    }

    private static void type(AddedLetters x, String text) {
        for (int i = 0; i < text.length(); i++) {
            x.key(text.charAt(i));
        }
    }

    private static AddedLetters withField(String name) {
        AddedLetters x = new AddedLetters();
        type(x, name);
        x.word();
        return x;
    }

    private static String textOf(AddedLetters x, int g, int node) {
        StringBuilder text = new StringBuilder();
        int length = x.rows(g, node, -1);
        for (int i = 0; i < length; i++) {
            text.append((char) x.rows(g, node, i));
        }
        return text.toString();
    }

    private static void dueRows(int promise, AddedLetters x, int g, int node, String want) {
        String got = textOf(x, g, node);
        Due.due(promise, "ROWS of NODE " + node + " are '" + got + "', due is '" + want + "'",
            got.equals(want) ? 1 : 0, 1);
    }

    private static void key() {
        AddedLetters x = new AddedLetters();
        Due.due(16, "key(-1)", x.key(-1), -2);
        Due.due(16, "key(128)", x.key(128), -2);
        for (int k = 1; k <= 12; k++) {
            Due.due(16, "key", x.key(k == 1 ? 0 : k == 2 ? 127 : k), k);
        }
        Due.due(16, "key(1)", x.key(1), -4);
        Due.due(16, "key(128): OUTSIDE first", x.key(128), -2);
        Due.due(16, "many(7)", x.many(7), 12);
    }

    private static void wipe() {
        AddedLetters x = new AddedLetters();
        type(x, "abc");
        Due.due(17, "wipe()", x.wipe(), 3);
        Due.due(17, "wipe()", x.wipe(), 0);
        type(x, "abcdefghijklm");
        Due.due(17, "wipe()", x.wipe(), 12);
        type(x, "five");
        Due.due(17, "word() behind wipe()", x.word(), 5);
    }

    private static void word() {
        AddedLetters x = new AddedLetters();
        String[] none = {"", "t", "tw", "twoo", "Two", "TWO", "fiv", "fives", " five", "five ", "one", "four",
            "six", "eleven", "seve", "sevem", "thre", "2", "twotwo"};
        for (String name : none) {
            x.wipe();
            type(x, name);
            Due.due(18, "word() of '" + name + "'", x.word(), -1);
            Due.due(18, "the TAPE stays", x.many(7), name.length());
            Due.due(18, "P stays", x.many(4), 2);
        }
        x.wipe();
        String[] names = {"three", "two", "seven", "five", "five"};
        int[] numbers = {3, 2, 7, 5, 5};
        for (int k = 0; k < names.length; k++) {
            type(x, names[k]);
            Due.due(18, "word() of " + names[k], x.word(), numbers[k]);
            Due.due(18, "P", x.many(4), numbers[k]);
            Due.due(18, "the TAPE is empty", x.many(7), 0);
        }
    }

    private static void wordForgets() {
        AddedLetters x = new AddedLetters();
        x.letter(1, 9);
        x.open(2, 0);
        x.open(2, 0);
        x.draw(0, 0, 1);
        int seed = x.many(8);
        type(x, "tw");
        Due.due(18, "word()", x.word(), -1);
        Due.due(18, "GENERATIONS stay", x.many(6), 2);
        type(x, "o");
        Due.due(18, "word()", x.word(), 2);
        Due.due(18, "many(6)", x.many(6), 0);
        Due.due(18, "many(5)", x.many(5), 0);
        Due.due(18, "rank(0, 0)", x.rank(0, 0), -1);
        Due.due(18, "the SEED stays", x.many(8), seed);
        Due.due(18, "LETTERS stay", x.many(0), 1);
        Due.due(18, "numbers go on from 0", x.open(3, 0), 0);
        Due.due(18, "nothing old is left", x.rank(0, 1), 0);
    }

    private static void open() {
        AddedLetters x = new AddedLetters();
        Due.due(19, "open(0, 0)", x.open(0, 0), -2);
        Due.due(19, "open(6, 0)", x.open(6, 0), -2);
        Due.due(19, "open(-1, 0)", x.open(-1, 0), -2);
        Due.due(19, "open(1, -1)", x.open(1, -1), 0);
        Due.due(19, "open(5, 0)", x.open(5, 0), 1);
        Due.due(19, "open(2, 0)", x.open(2, 0), 2);
        Due.due(19, "open(2, 0)", x.open(2, 0), -4);
        Due.due(19, "open(6, 0): OUTSIDE first", x.open(6, 0), -2);
        Due.due(19, "many(5)", x.many(5), 3);
        Due.due(19, "many(6)", x.many(6), 3);
        int[] n = {1, 5, 2};
        for (int g = 0; g < 3; g++) {
            Due.due(19, "RANK of NODE 0", x.rank(g, 0), n[g]);
            for (int node = 1; node < 4; node++) {
                Due.due(19, "RANK of others", x.rank(g, node), 0);
            }
        }
        dueRows(19, x, 0, 0, "1:111");
        dueRows(19, x, 2, 0, "10:000 01:000");
    }

    private static void openSigns() {
        String[] names = {"two", "three", "five", "seven"};
        int[] p = {2, 3, 5, 7};
        int[] xs = {0, -1, Integer.MIN_VALUE, Integer.MAX_VALUE, 123456789, -987654321, 0x1B1B1B1B};
        for (int f = 0; f < 4; f++) {
            AddedLetters x = withField(names[f]);
            for (int number : xs) {
                type(x, names[f]);
                x.word();
                x.open(5, number);
                for (int k = 0; k < 5; k++) {
                    for (int i = 0; i < 8; i++) {
                        int want = i < 5 ? (i == k ? 1 : 0) : (number >>> 2 * (3 * k + i - 5) & 3) % p[f];
                        if (i >= 5 || k == 2) {
                            Due.due(19, "row(0, 0, " + k + ", " + i + ")", x.row(0, 0, k, i), want);
                        }
                    }
                }
            }
        }
    }

    private static void rank() {
        AddedLetters x = withField("three");
        Due.due(20, "rank(0, 0)", x.rank(0, 0), -1);
        x.open(3, 77);
        Due.due(20, "rank(0, 0)", x.rank(0, 0), 3);
        Due.due(20, "rank(0, 3)", x.rank(0, 3), 0);
        Due.due(20, "rank(0, 4)", x.rank(0, 4), -1);
        Due.due(20, "rank(0, -1)", x.rank(0, -1), -1);
        Due.due(20, "rank(1, 0)", x.rank(1, 0), -1);
        Due.due(20, "rank(-1, 0)", x.rank(-1, 0), -1);
        x.mix(0, 0, 3, 1);
        x.mix(0, 0, 3, 2);
        Due.due(20, "rank(0, 3)", x.rank(0, 3), 1);
        x.mix(0, 0, 3, 4);
        Due.due(20, "rank(0, 3)", x.rank(0, 3), 2);
        x.mix(0, 0, 3, 9);
        Due.due(20, "rank(0, 3)", x.rank(0, 3), 3);
    }

    private static void row() {
        AddedLetters x = withField("seven");
        x.open(2, 0b000110_110110);
        dueRows(21, x, 0, 0, "10:213 01:210");
        int[] first = {1, 0, 2, 1, 3};
        int[] second = {0, 1, 2, 1, 0};
        for (int i = 0; i < 5; i++) {
            Due.due(21, "row(0, 0, 0, i)", x.row(0, 0, 0, i), first[i]);
            Due.due(21, "row(0, 0, 1, i)", x.row(0, 0, 1, i), second[i]);
        }
        Due.due(21, "row(0, 0, 0, 5)", x.row(0, 0, 0, 5), -2);
        Due.due(21, "row(0, 0, 0, -1)", x.row(0, 0, 0, -1), -2);
        Due.due(21, "row(0, 0, 2, 0)", x.row(0, 0, 2, 0), -1);
        Due.due(21, "row(0, 0, -1, 0)", x.row(0, 0, -1, 0), -1);
        Due.due(21, "row(0, 0, 2, 5): UNKNOWN first", x.row(0, 0, 2, 5), -1);
        Due.due(21, "row(0, 1, 0, 0)", x.row(0, 1, 0, 0), -1);
        Due.due(21, "row(0, 4, 0, 0)", x.row(0, 4, 0, 0), -1);
        Due.due(21, "row(0, -1, 0, 0)", x.row(0, -1, 0, 0), -1);
        Due.due(21, "row(1, 0, 0, 0)", x.row(1, 0, 0, 0), -1);
        // ROW 0 of NODE 1 has its LEAD at place 1
        x.mix(0, 0, 1, 21);
        int[] third = {0, 1, 2, 1, 0};
        for (int i = 0; i < 5; i++) {
            Due.due(21, "row(0, 1, 0, i)", x.row(0, 1, 0, i), third[i]);
        }
    }

    private static void read() {
        AddedLetters x = withField("five");
        x.open(3, 0b011011_100100_111001);
        dueRows(22, x, 0, 0, "100:123 010:012 001:321");
        x.mix(0, 0, 1, 26);
        dueRows(22, x, 0, 1, "101:444");
        Due.due(22, "read(0, 1, 0, 0): not alone", x.read(0, 1, 0, 0), -9);
        Due.due(22, "read(0, 1, 2, 0)", x.read(0, 1, 2, 0), -9);
        Due.due(22, "read(0, 1, 1, 0)", x.read(0, 1, 1, 0), -9);
        x.mix(0, 0, 1, 15);
        int[][] signs = {{1, 2, 3}, {0, 1, 2}, {3, 2, 1}};
        for (int j = 0; j < 3; j++) {
            Due.due(22, "read(0, 1, 1, j)", x.read(0, 1, 1, j), signs[1][j]);
            Due.due(22, "read(0, 1, 0, j)", x.read(0, 1, 0, j), -9);
        }
        x.mix(0, 0, 1, 1);
        for (int k = 0; k < 3; k++) {
            for (int j = 0; j < 3; j++) {
                Due.due(22, "read(0, 1, k, j)", x.read(0, 1, k, j), signs[k][j]);
                Due.due(22, "read(0, 2, k, j)", x.read(0, 2, k, j), -9);
            }
        }
        x.mix(0, 0, 3, 6);
        dueRows(22, x, 0, 3, "110:130");
        Due.due(22, "read(0, 3, 0, 0): the next number is not 0", x.read(0, 3, 0, 0), -9);
        Due.due(22, "read(0, 3, 1, 0)", x.read(0, 3, 1, 0), -9);
        Due.due(22, "read(0, 1, 3, 0)", x.read(0, 1, 3, 0), -2);
        Due.due(22, "read(0, 1, -1, 0)", x.read(0, 1, -1, 0), -2);
        Due.due(22, "read(0, 1, 0, 3)", x.read(0, 1, 0, 3), -2);
        Due.due(22, "read(0, 1, 0, -1)", x.read(0, 1, 0, -1), -2);
        Due.due(22, "read(0, 2, 0, 3): OUTSIDE ahead of NONE", x.read(0, 2, 0, 3), -2);
        Due.due(22, "read(0, 4, 3, 0): UNKNOWN first", x.read(0, 4, 3, 0), -1);
        Due.due(22, "read(0, -1, 0, 0)", x.read(0, -1, 0, 0), -1);
        Due.due(22, "read(1, 0, 0, 0)", x.read(1, 0, 0, 0), -1);
    }

    private static void mix() {
        AddedLetters x = withField("five");
        x.open(3, 0b011011_100100_111001);
        // 4 times ROW 0, 3 times ROW 1, 2 times ROW 2: 432, signs 4+0+6, 8+3+4, 12+6+2
        Due.due(23, "mix(0, 0, 1, 69)", x.mix(0, 0, 1, 4 + 15 + 50), 1);
        dueRows(23, x, 0, 1, "123:000");
        Due.due(23, "mix(0, 0, 1, 69) again", x.mix(0, 0, 1, 69), 0);
        Due.due(23, "mix(0, 0, 1, 125 + 69): figures behind the RANK are not used",
            x.mix(0, 0, 1, 125 + 69), 0);
        Due.due(23, "mix(0, 0, 1, 0)", x.mix(0, 0, 1, 0), 0);
        Due.due(23, "mix of a NODE without ROWS", x.mix(0, 2, 1, 16806), 0);
        Due.due(23, "mix(0, 0, 1, 1)", x.mix(0, 0, 1, 1), 1);
        // 123:000 less 100:123 is 023:432, by 3 (3 times 2 is 1): 014:241
        dueRows(23, x, 0, 1, "100:123 014:241");
        Due.due(23, "mix(0, 0, 1, 25)", x.mix(0, 0, 1, 25), 1);
        dueRows(23, x, 0, 1, "100:123 010:012 001:321");
        Due.due(23, "mix to NODE 0", x.mix(0, 1, 0, 5), 0);
        Due.due(23, "mix(0, 0, 2, -1)", x.mix(0, 0, 2, -1), -2);
        Due.due(23, "mix(0, 0, 2, 16807)", x.mix(0, 0, 2, 16807), -2);
        Due.due(23, "mix(0, 0, 2, 16806)", x.mix(0, 0, 2, 16806), 1);
        Due.due(23, "mix(0, 2, 2, 1)", x.mix(0, 2, 2, 1), -3);
        Due.due(23, "mix(0, 2, 2, 16807): OUTSIDE first", x.mix(0, 2, 2, 16807), -2);
        Due.due(23, "mix(0, 4, 4, -1): UNKNOWN first", x.mix(0, 4, 4, -1), -1);
        Due.due(23, "mix(0, 0, 4, 1)", x.mix(0, 0, 4, 1), -1);
        Due.due(23, "mix(0, -1, 0, 1)", x.mix(0, -1, 0, 1), -1);
        Due.due(23, "mix(1, 0, 1, 1)", x.mix(1, 0, 1, 1), -1);
        Due.due(23, "refusals change nothing", x.rank(0, 3), 0);
    }

    private static void mixOnTheWay() {
        AddedLetters x = withField("seven");
        x.open(5, 0);
        // ROWS of NODE 1 come out of order and are put in order
        x.mix(0, 0, 1, 2401);
        x.mix(0, 0, 1, 1 + 2 * 49 + 3 * 2401);
        x.mix(0, 0, 1, 7 * 6 + 5 * 49);
        dueRows(23, x, 0, 1, "10200:000 01200:000 00001:000");
        // 3 times ROW 0, ROW 1 not, 2 times ROW 2
        Due.due(23, "mix(0, 1, 2, 101)", x.mix(0, 1, 2, 3 + 2 * 49), 1);
        dueRows(23, x, 0, 2, "10203:000");
        Due.due(23, "mix(0, 2, 1, 6)", x.mix(0, 2, 1, 6), 0);
    }

    private static void draw() {
        AddedLetters x = withField("two");
        x.open(5, 1000);
        int seed = 1;
        for (int k = 0; k < 40; k++) {
            seed = 69069 * seed + 12345;
            int a = k % 4;
            int b = (k + 1 + k / 4 % 3) % 4;
            Due.due(24, "draw(0, " + a + ", " + b + ")", x.draw(0, a, b), (seed >>> 16) % 16807);
            Due.due(24, "the SEED", x.many(8), seed & 0xFFFF);
        }
        Due.due(24, "draw(0, 1, 1)", x.draw(0, 1, 1), -3);
        Due.due(24, "draw(0, 4, 4): UNKNOWN first", x.draw(0, 4, 4), -1);
        Due.due(24, "draw(0, 0, -1)", x.draw(0, 0, -1), -1);
        Due.due(24, "draw(3, 0, 1)", x.draw(3, 0, 1), -1);
        Due.due(24, "the SEED after refusals", x.many(8), seed & 0xFFFF);

        AddedLetters told = withField("five");
        AddedLetters drawn = withField("five");
        told.open(4, 4321);
        drawn.open(4, 4321);
        for (int k = 0; k < 12; k++) {
            int b = 1 + k % 3;
            told.mix(0, 0, b, drawn.draw(0, 0, b));
            dueRows(24, drawn, 0, b, textOf(told, 0, b));
        }
    }

    private static void fresh() {
        AddedLetters x = withField("three");
        x.open(4, 0);
        Due.due(25, "fresh(0, 0, 1)", x.fresh(0, 0, 1), 1);
        Due.due(25, "fresh(0, 1, 0)", x.fresh(0, 1, 0), -9);
        x.mix(0, 0, 1, 1);
        Due.due(25, "fresh(0, 0, 1)", x.fresh(0, 0, 1), 3);
        x.mix(0, 0, 1, 9);
        Due.due(25, "fresh(0, 0, 1)", x.fresh(0, 0, 1), 3);
        x.mix(0, 0, 1, 3);
        Due.due(25, "fresh(0, 0, 1)", x.fresh(0, 0, 1), 27);
        x.mix(0, 0, 2, 28);
        Due.due(25, "fresh(0, 2, 1)", x.fresh(0, 2, 1), 1);
        Due.due(25, "fresh(0, 1, 2)", x.fresh(0, 1, 2), 1);
        x.mix(0, 0, 2, 1);
        Due.due(25, "fresh(0, 1, 2)", x.fresh(0, 1, 2), 3);
        Due.due(25, "fresh(0, 2, 1)", x.fresh(0, 2, 1), 3);
        x.mix(0, 0, 1, 27);
        Due.due(25, "fresh(0, 0, 1)", x.fresh(0, 0, 1), -9);
        Due.due(25, "fresh(0, 3, 1)", x.fresh(0, 3, 1), -9);
        Due.due(25, "nothing is changed by that", x.rank(0, 3), 0);
        Due.due(25, "fresh(0, 1, 1)", x.fresh(0, 1, 1), -3);
        Due.due(25, "fresh(0, 4, 4): UNKNOWN first", x.fresh(0, 4, 4), -1);
        Due.due(25, "fresh(0, -1, 0)", x.fresh(0, -1, 0), -1);
        Due.due(25, "fresh(0, 0, 4)", x.fresh(0, 0, 4), -1);
        Due.due(25, "fresh(1, 0, 1)", x.fresh(1, 0, 1), -1);
        x = withField("seven");
        x.open(5, 0);
        for (int m = 1; m < 2401; m *= 7) {
            x.mix(0, 0, 1, m);
        }
        Due.due(25, "fresh(0, 0, 1)", x.fresh(0, 0, 1), 2401);
    }

    private static void forAll() {
        AddedLetters x = withField("three");
        x.open(3, 0);
        Due.due(26, "forAll(0, 0)", x.forAll(0, 0), 1);
        Due.due(26, "forAll(0, 1): it has nothing", x.forAll(0, 1), -9);
        x.mix(0, 0, 1, 1);
        Due.due(26, "forAll(0, 0)", x.forAll(0, 0), 3);
        x.mix(0, 0, 2, 3);
        Due.due(26, "forAll(0, 0)", x.forAll(0, 0), 4);
        x.mix(0, 0, 3, 4);
        Due.due(26, "forAll(0, 0)", x.forAll(0, 0), 5);
        Due.due(26, "forAll(0, 1): NODE 0 can't be raised", x.forAll(0, 1), 1);
        x.mix(0, 0, 1, 3);
        Due.due(26, "forAll(0, 0)", x.forAll(0, 0), 9);
        x.mix(0, 0, 1, 9);
        Due.due(26, "forAll(0, 0): NODE 1 has all", x.forAll(0, 0), 1);
        for (int node = 2; node < 4; node++) {
            x.mix(0, 0, node, 1);
            x.mix(0, 0, node, 3);
            x.mix(0, 0, node, 9);
        }
        Due.due(26, "forAll(0, 0): all have all", x.forAll(0, 0), -9);
        Due.due(26, "forAll(0, 4)", x.forAll(0, 4), -1);
        Due.due(26, "forAll(0, -1)", x.forAll(0, -1), -1);
        Due.due(26, "forAll(1, 0)", x.forAll(1, 0), -1);
    }

    private static void forAllOfTwo() {
        AddedLetters x = new AddedLetters();
        x.open(2, 0);
        x.mix(0, 0, 1, 1);
        x.mix(0, 0, 2, 2);
        Due.due(26, "forAll(0, 0)", x.forAll(0, 0), 3);
        x.mix(0, 0, 3, 3);
        Due.due(26, "forAll(0, 0): no MIX is new to all three", x.forAll(0, 0), -9);
        Due.due(26, "forAll(0, 1)", x.forAll(0, 1), 1);
        Due.due(26, "nothing is changed by that", x.rank(0, 1), 1);
    }

    private static void finish(AddedLetters x, int g, int n) {
        for (int node = 1; node < 4; node++) {
            for (int k = 0; k < n; k++) {
                x.mix(g, 0, node, 1 << k);
            }
        }
    }

    private static void sweep() {
        AddedLetters x = new AddedLetters();
        Due.due(27, "sweep()", x.sweep(), 0);
        x.open(1, 0);
        x.open(2, 0);
        x.open(3, 63);
        Due.due(27, "sweep()", x.sweep(), 0);
        finish(x, 0, 1);
        finish(x, 1, 1);
        finish(x, 2, 3);
        Due.due(27, "sweep()", x.sweep(), 2);
        Due.due(27, "many(6)", x.many(6), 1);
        Due.due(27, "many(5)", x.many(5), 3);
        Due.due(27, "rank(0, 0)", x.rank(0, 0), -1);
        Due.due(27, "rank(1, 1)", x.rank(1, 1), 1);
        Due.due(27, "rank(2, 0)", x.rank(2, 0), -1);
        Due.due(27, "numbers go on", x.open(4, 0), 3);
        Due.due(27, "numbers go on", x.open(1, 0), 4);
        Due.due(27, "nothing old is left", x.rank(3, 1), 0);
        dueRows(27, x, 4, 0, "1:000");
        Due.due(27, "FULL", x.open(1, 0), -4);
        finish(x, 4, 1);
        Due.due(27, "sweep()", x.sweep(), 1);
        Due.due(27, "opened(0)", x.opened(0), 1);
        Due.due(27, "opened(1)", x.opened(1), 3);
        Due.due(27, "many(5)", x.many(5), 5);
        // three of four NODES are not enough
        x.mix(1, 0, 1, 2);
        x.mix(1, 0, 2, 2);
        Due.due(27, "sweep()", x.sweep(), 0);
        x.mix(1, 0, 3, 2);
        Due.due(27, "sweep()", x.sweep(), 1);
    }

    private static void opened() {
        AddedLetters x = new AddedLetters();
        Due.due(28, "opened(0)", x.opened(0), -1);
        for (int g = 0; g < 3; g++) {
            x.open(1, g);
        }
        for (int k = 0; k < 3; k++) {
            Due.due(28, "opened(" + k + ")", x.opened(k), k);
        }
        Due.due(28, "opened(3)", x.opened(3), -1);
        Due.due(28, "opened(-1)", x.opened(-1), -1);
        finish(x, 0, 1);
        x.sweep();
        Due.due(28, "opened(0)", x.opened(0), 1);
        Due.due(28, "opened(1)", x.opened(1), 2);
        Due.due(28, "opened(2)", x.opened(2), -1);
        x.open(1, 0);
        Due.due(28, "opened(2)", x.opened(2), 3);
        finish(x, 2, 1);
        x.sweep();
        Due.due(28, "opened(0)", x.opened(0), 1);
        Due.due(28, "opened(1)", x.opened(1), 3);
        Due.due(28, "rank(3, 0)", x.rank(3, 0), 1);
        Due.due(28, "rank(3, 1)", x.rank(3, 1), 0);
    }
}
