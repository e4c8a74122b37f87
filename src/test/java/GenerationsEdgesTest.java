/** The boundary cases of part 3 and of promises 16 to 28, a method for each sentence that names one. */
public final class GenerationsEdgesTest {
    private static final int UNKNOWN = -1, OUTSIDE = -2, STATE = -3, FULL = -4, NONE = -9;
    private static final int LOW = Integer.MIN_VALUE, HIGH = Integer.MAX_VALUE;
    private static final String[] WORDS = {"two", "three", "five", "seven"};
    private static final int[] FIELDS = {2, 3, 5, 7};

    public static void main(String[] args) {
        codesFromLeastToGreatest();
        tapeOfTwelve();
        wipeEmptyAndFull();
        wordOfAnEmptyTape();
        wordOfAFullTape();
        wordNearlyRight();
        wordEmptiesTheTape();
        wordOfTheSameField();
        wordForgetsAllButTheSeed();
        unknownWordChangesNothing();
        lettersOneToFive();
        threeOpenAtMost();
        numbersFromZeroOn();
        signsWithinTheField();
        signsOfTheIntsEnds();
        nodesFromFirstToLast();
        rankFromNoneToN();
        leadIsOne();
        placeIsZeroInAllOthers();
        rowsInTheOrderOfPlaces();
        elseNothingChanges();
        rowsEnds();
        rowOfNone();
        readsOneAlone();
        readEnds();
        mixOfNought();
        mixOfTheGreatest();
        mixBehindTheFifth();
        mixBehindTheRank();
        mixOfNoRows();
        mixToOneThatHasAll();
        drawWraps();
        drawOfNoRows();
        drawRefusedDoesNotMoveTheSeed();
        freshFromLeastToGreatest();
        freshOfNone();
        forAllOfNoSuchNodes();
        forAllLeavesOutWhoCannotRise();
        forAllOfNoneForAll();
        forAllOfThreeRows();
        forAllAtItsGreatest();
        sweepNoneToThree();
        doneNeedsAllFour();
        openAgainBehindSweep();
        sweptOnesLeaveOthersApart();
        openedEnds();
        Due.end();
    }

    private static Calls open(String word, int n, int x) {
        Calls calls = new Calls().field(word);
        calls.ask("open", n, x);
        return calls;
    }

    private static int power(int p, int i) {
        return i == 0 ? 1 : p * power(p, i - 1);
    }

    /** All other NODES get all that NODE 0 has. */
    private static void finish(Calls x, int g, int p, int n) {
        for (int node = 1; node < 4; node++) {
            for (int i = 0; i < n; i++) {
                x.ask("mix", g, 0, node, power(p, i));
            }
        }
    }

    /** 16: "A code (0 .. 127)". */
    private static void codesFromLeastToGreatest() {
        Calls x = new Calls();
        for (int code : new int[] {-1, 128, 255, 256, LOW, HIGH}) {
            x.due("key", OUTSIDE, code);
        }
        x.due("many", 0, 7);
        x.due("key", 1, 0);
        x.due("key", 2, 127);
        x.due("many", 2, 7);
    }

    /** 16: "behind those of the TAPE (12 at most): how many. OUTSIDE; FULL." */
    private static void tapeOfTwelve() {
        Calls x = new Calls();
        for (int k = 1; k <= 12; k++) {
            x.due("key", k, 127);
        }
        x.due("key", FULL, 127);
        x.due("key", FULL, 0);
        x.due(16, "OUTSIDE first", "key", OUTSIDE, 128);
        x.due(16, "OUTSIDE first", "key", OUTSIDE, -1);
        x.due("many", 12, 7);
    }

    /** 17: "how many codes it had": none, one, all twelve. */
    private static void wipeEmptyAndFull() {
        Calls x = new Calls();
        x.due("wipe", 0);
        x.ask("key", 0);
        x.due("wipe", 1);
        x.keys("abcdefghijklm");
        x.due("wipe", 12);
        x.due("many", 0, 7);
        x.due("wipe", 0);
        x.due(17, "there is room again", "key", 1, 's');
        x.keys("even");
        x.due(17, "nothing old is ahead of it", "word", 7);
    }

    /** 18: "UNKNOWN: it is none of the four words": there is nothing on the TAPE. */
    private static void wordOfAnEmptyTape() {
        Calls x = new Calls();
        x.due("word", UNKNOWN);
        x.field("seven").due(18, "a word is told once", "word", UNKNOWN);
        x.due("many", 7, 4);
        x.keys("two");
        x.ask("wipe");
        x.due("word", UNKNOWN);
        x.due("many", 7, 4);
    }

    /** 18: a TAPE of twelve codes is none of the words, and stays. */
    private static void wordOfAFullTape() {
        Calls x = new Calls();
        x.keys("twotwotwotwo");
        x.due("word", UNKNOWN);
        x.due("many", 12, 7);
        x.due(18, "a refused code makes no word", "key", FULL, 'x');
        x.due("word", UNKNOWN);
        x.ask("wipe");
        x.keys("twotwo");
        x.due("word", UNKNOWN);
    }

    /** 18: a code too few, too many, ahead, behind, another one; great letters; figures. */
    private static void wordNearlyRight() {
        Calls x = new Calls();
        for (String word : new String[] {"tw", "wo", "twoo", "ttwo", "twp", "Two", "TWO", "\0two", "two\0", " two",
            "two ", "thre", "hree", "threee", "fiv", "ive", "fivee", "fife", "seve", "even", "sevenn", "zeven", "2",
            "3", "5", "7", "one", "four", "six", "ten", "eleven"}) {
            x.ask("wipe");
            x.keys(word);
            x.due(18, "'" + word + "'", "word", UNKNOWN);
            x.due(18, "the TAPE stays", "many", word.length(), 7);
        }
        x.due(18, "P stays", "many", 2, 4);
        x.ask("wipe");
        x.keys("seve");
        x.due("word", UNKNOWN);
        x.keys("n");
        x.due(18, "what stayed is gone on with", "word", 7);
    }

    /** 18: "P by the word on the TAPE (which is empty then): P". */
    private static void wordEmptiesTheTape() {
        Calls x = new Calls();
        for (int f = 0; f < 4; f++) {
            x.keys(WORDS[f]);
            x.due("word", FIELDS[f]);
            x.due("many", FIELDS[f], 4);
            x.due("many", 0, 7);
            x.due("key", 1, 'x');
            x.due("wipe", 1);
        }
    }

    /** Part 3: "With word() P becomes another one, or stays: all GENERATIONS are no more by that". */
    private static void wordOfTheSameField() {
        for (int f = 0; f < 4; f++) {
            Calls x = open(WORDS[f], 5, -1);
            x.ask("open", 1, 0);
            x.ask("open", 2, 0);
            x.keys(WORDS[f]);
            x.due("word", FIELDS[f]);
            x.due("many", 0, 6);
            x.due("many", 0, 5);
            x.due("opened", UNKNOWN, 0);
            x.due("rank", UNKNOWN, 0, 0);
            x.due("sweep", 0);
            x.due(18, "numbers go on from 0", "open", 0, 1, 0);
            x.due(18, "RANK of NODE 0", "rank", 1, 0, 0);
            x.due("rank", UNKNOWN, 1, 0);
        }
    }

    /** Part 3: "numbers go on from 0; the SEED stays"; the relay stays too. */
    private static void wordForgetsAllButTheSeed() {
        Calls x = open("two", 3, 0).letters(2);
        x.ask("want", 1, 1);
        x.ask("draw", 0, 0, 1);
        x.ask("draw", 0, 0, 2);
        int seed = x.ask("many", 8);
        x.field("seven");
        x.due("many", seed, 8);
        x.due("many", 2, 0);
        x.due("many", 1, 1);
        x.due("open", 0, 5, 0);
        for (int node = 1; node < 4; node++) {
            x.due(18, "nothing old is left", "rank", 0, 0, node);
        }
        long next = 1;
        for (int k = 0; k < 3; k++) {
            next = (next * 69069 + 12345) % 0x100000000L;
        }
        x.due(24, "drawn on from that SEED", "draw", (int) (next / 65536 % 16807), 0, 0, 1);
    }

    /** 18: "(the TAPE stays)"; refused, GENERATIONS and P stay as well. */
    private static void unknownWordChangesNothing() {
        Calls x = open("five", 2, -1);
        x.ask("mix", 0, 0, 1, 7);
        x.keys("eight");
        x.due("word", UNKNOWN);
        x.due("many", 5, 4);
        x.due("many", 1, 5);
        x.due("many", 1, 6);
        x.due("many", 5, 7);
        x.dueRows(18, 0, 1, "13:222");
    }

    /** Part 3: "each has n LETTERS of its own (1 .. 5)". */
    private static void lettersOneToFive() {
        for (int n = 1; n <= 5; n++) {
            Calls x = new Calls();
            x.due("open", 0, n, 0);
            x.due("rank", n, 0, 0);
            x.due("row", OUTSIDE, 0, 0, 0, n + 3);
            x.due("read", OUTSIDE, 0, 0, n, 0);
        }
        Calls x = new Calls();
        for (int n : new int[] {0, 6, -1, 7, LOW, HIGH}) {
            x.due("open", OUTSIDE, n, 0);
        }
        x.due("many", 0, 5);
        x.due("many", 0, 6);
        x.due(19, "refused, no number is lost", "open", 0, 5, 0);
    }

    /** Part 3: "3 open at most at a time"; 19: "OUTSIDE: n; FULL". */
    private static void threeOpenAtMost() {
        Calls x = new Calls();
        for (int g = 0; g < 3; g++) {
            x.due("open", g, 1, g);
        }
        x.due("open", FULL, 1, 0);
        x.due("open", FULL, 5, -1);
        x.due(19, "OUTSIDE first", "open", OUTSIDE, 0, 0);
        x.due(19, "OUTSIDE first", "open", OUTSIDE, 6, 0);
        x.due("many", 3, 5);
        x.due("many", 3, 6);
        x.due("rank", UNKNOWN, 3, 0);
        finish(x, 1, 2, 1);
        x.due("open", FULL, 1, 0);
        x.ask("sweep");
        x.due(19, "FULL took no number", "open", 3, 1, 0);
        x.due("open", FULL, 1, 0);
    }

    /** Part 3: "numbered from 0 on as they are opened", "numbers go on behind it". */
    private static void numbersFromZeroOn() {
        Calls x = new Calls();
        for (int g = 0; g < 40; g++) {
            x.due("open", g, 1, g);
            finish(x, g, 2, 1);
            x.due("sweep", 1);
            x.due("rank", UNKNOWN, g, 0);
            x.due("many", g + 1, 5);
        }
        x.due("many", 0, 6);
        x.field("two").due(18, "from 0 again", "open", 0, 1, 0);
    }

    /** Part 3: "3 SIGNS (0 .. P - 1)"; 19: "& 3) % P". */
    private static void signsWithinTheField() {
        // SIGNS 0, 1, 2 of LETTER 0; 3, 2, 1 of LETTER 1
        int signs = 0b011011_100100;
        String[] due = {"10:010 01:101", "10:012 01:021", "10:012 01:321", "10:012 01:321"};
        for (int f = 0; f < 4; f++) {
            open(WORDS[f], 2, signs).dueRows(19, 0, 0, due[f]);
            String last = f == 0 ? "1" : f == 1 ? "0" : "3";
            open(WORDS[f], 1, 63).dueRows(19, 0, 0, "1:" + last.repeat(3));
        }
    }

    /** 19: "by a number x (an int)": its two highest bits are SIGNS of none; no sign of the int comes in. */
    private static void signsOfTheIntsEnds() {
        String none = "10000:000 01000:000 00100:000 00010:000 00001:000";
        String all = "10000:333 01000:333 00100:333 00010:333 00001:333";
        open("seven", 5, LOW).dueRows(19, 0, 0, none);
        open("seven", 5, 0x40000000).dueRows(19, 0, 0, none);
        open("seven", 5, 0xC0000000).dueRows(19, 0, 0, none);
        open("seven", 5, 0).dueRows(19, 0, 0, none);
        open("seven", 5, -1).dueRows(19, 0, 0, all);
        open("seven", 5, HIGH).dueRows(19, 0, 0, all);
        open("seven", 5, 0x3FFFFFFF).dueRows(19, 0, 0, all);
        open("seven", 5, 0x30000001).dueRows(19, 0, 0, "10000:100 01000:000 00100:000 00010:000 00001:003");
    }

    /** Part 3: "NODES 0 .. 3". */
    private static void nodesFromFirstToLast() {
        Calls x = open("two", 1, 0);
        for (int node = 0; node < 4; node++) {
            x.due("rank", node == 0 ? 1 : 0, 0, node);
            x.due("rows", node == 0 ? 5 : 0, 0, node, -1);
        }
        for (int node : new int[] {-1, 4, 5, LOW, HIGH}) {
            x.due("rank", UNKNOWN, 0, node);
            x.due("rows", UNKNOWN, 0, node, -1);
            x.due("row", UNKNOWN, 0, node, 0, 0);
            x.due("read", UNKNOWN, 0, node, 0, 0);
            x.due("mix", UNKNOWN, 0, 0, node, 1);
            x.due("mix", UNKNOWN, 0, node, 1, 1);
            x.due("mix", UNKNOWN, 0, node, node, 1);
            x.due("draw", UNKNOWN, 0, 0, node);
            x.due("draw", UNKNOWN, 0, node, node);
            x.due("fresh", UNKNOWN, 0, node, 1);
            x.due("fresh", UNKNOWN, 0, node, node);
            x.due("forAll", UNKNOWN, 0, node);
        }
        x.due("mix", 1, 0, 0, 3, 1);
        x.due("rank", 1, 0, 3);
    }

    /** 20: RANK from 0 to n and no higher. */
    private static void rankFromNoneToN() {
        for (int f = 0; f < 4; f++) {
            Calls x = open(WORDS[f], 5, 12345);
            for (int i = 4; i >= 0; i--) {
                x.due("rank", 4 - i, 0, 3);
                x.due("mix", 1, 0, 0, 3, power(FIELDS[f], i));
            }
            x.due("rank", 5, 0, 3);
            x.due("mix", 0, 0, 0, 3, 16806);
            x.due("mix", 0, 0, 0, 3, 1);
            x.due("rank", 5, 0, 3);
        }
    }

    /** Part 3: "each ROW's first number that is not 0 (its LEAD) is 1": whatever it came as. */
    private static void leadIsOne() {
        for (int f = 0; f < 4; f++) {
            for (int c = 1; c < FIELDS[f]; c++) {
                Calls x = open(WORDS[f], 3, 0b011011_100100_111001);
                String rows = x.rowsOf(0, 0);
                x.due(23, "ROW 0 " + c + " times", "mix", 1, 0, 0, 1, c);
                x.due(23, "ROW 2 " + c + " times", "mix", 1, 0, 0, 2, c * FIELDS[f] * FIELDS[f]);
                x.dueRows(23, 0, 1, rows.substring(0, 7));
                x.dueRows(23, 0, 2, rows.substring(16));
            }
        }
    }

    /** Part 3: "that place is 0 in all others": those ahead of it and those behind it. */
    private static void placeIsZeroInAllOthers() {
        Calls x = open("seven", 3, 0);
        x.ask("mix", 0, 0, 1, 1 + 2 * 7 + 3 * 49);
        x.dueRows(23, 0, 1, "123:000");
        x.ask("mix", 0, 0, 1, 4 * 7 + 5 * 49);
        // 0 4 5 by 2 (4 times 2 is 1): 0 1 3; 1 2 3 less two of these: 1 0 4
        x.dueRows(23, 0, 1, "104:000 013:000");
        x.ask("mix", 0, 0, 1, 6 * 49);
        x.dueRows(23, 0, 1, "100:000 010:000 001:000");
        x.ask("mix", 0, 0, 2, 1 + 7);
        x.ask("mix", 0, 0, 2, 1 + 49);
        // 1 0 1 less 1 1 0: 0 6 1, by 6: 0 1 6; 1 1 0 less that: 1 0 1
        x.dueRows(23, 0, 2, "101:000 016:000");
    }

    /** Part 3: "ROWS are in the order of these places": they come from the last on. */
    private static void rowsInTheOrderOfPlaces() {
        Calls x = open("two", 5, 0x1B1B1B1B);
        String rows = x.rowsOf(0, 0);
        for (int i = 4; i >= 0; i--) {
            x.ask("mix", 0, 0, 1, 1 << i);
            x.dueRows(23, 0, 1, rows.substring(10 * i));
        }
    }

    /** Part 3: "if the ROW's numbers are no sum of its ROWS' numbers, each some times; else nothing changes". */
    private static void elseNothingChanges() {
        Calls x = open("three", 3, 0b011011_100100_111001);
        x.ask("mix", 0, 0, 1, 1 + 2 * 3);
        x.ask("mix", 0, 0, 1, 2 * 3 + 9);
        String rows = x.rowsOf(0, 1);
        // all sums of the two: c times 1 2 0 and d times 0 2 1
        for (int c = 0; c < 3; c++) {
            for (int d = 0; d < 3; d++) {
                x.due(23, c + " and " + d + " times", "mix", 0, 0, 0, 1, c + 3 * ((2 * c + 2 * d) % 3) + 9 * d);
            }
        }
        x.dueRows(23, 0, 1, rows);
        x.due("rank", 2, 0, 1);
        x.due(23, "a ROW that is no such sum", "mix", 1, 0, 0, 1, 1 + 3);
    }

    /** 21: "Number i (0 .. n - 1), SIGN i - n (n .. n + 2)"; "OUTSIDE: i". */
    private static void rowsEnds() {
        for (int n = 1; n <= 5; n++) {
            // SIGNS 1, 2, 3 of each LETTER
            Calls x = open("five", n, 0b111001 * 0x01041041);
            for (int k = 0; k < n; k++) {
                for (int i = 0; i < n; i++) {
                    x.due("row", i == k ? 1 : 0, 0, 0, k, i);
                }
                x.due(21, "the first SIGN", "row", 1, 0, 0, k, n);
                x.due(21, "the second SIGN", "row", 2, 0, 0, k, n + 1);
                x.due(21, "the last SIGN", "row", 3, 0, 0, k, n + 2);
                for (int i : new int[] {-1, n + 3, n + 4, 8, LOW, HIGH}) {
                    x.due("row", OUTSIDE, 0, 0, k, i);
                }
            }
        }
    }

    /** 21: "UNKNOWN: .. ROW": a NODE without ROWS, behind the last, ahead of the first. */
    private static void rowOfNone() {
        Calls x = open("two", 5, 0);
        x.due("row", UNKNOWN, 0, 1, 0, 0);
        x.due(21, "UNKNOWN first", "row", UNKNOWN, 0, 1, 0, 8);
        for (int k : new int[] {-1, 5, 6, LOW, HIGH}) {
            x.due("row", UNKNOWN, 0, 0, k, 0);
            x.due(21, "UNKNOWN first", "row", UNKNOWN, 0, 0, k, -1);
        }
        // the only ROW has its LEAD at the last place, and is ROW 0
        x.ask("mix", 0, 0, 1, 16);
        x.due("row", 1, 0, 1, 0, 4);
        x.due("row", UNKNOWN, 0, 1, 1, 4);
        x.due("row", UNKNOWN, 0, 1, 4, 4);
        x.due("row", UNKNOWN, 1, 0, 0, 0);
    }

    /** Part 3: "READS LETTER k, if it has a ROW whose numbers are 0 but for a 1 at place k". */
    private static void readsOneAlone() {
        for (int k = 0; k < 5; k++) {
            Calls x = open("three", 5, 0b100100_100100_100100_100100_100100);
            x.due(22, "no ROWS", "read", NONE, 0, 1, k, 0);
            x.due(22, "NODE 0 READS all", "read", 2, 0, 0, k, 2);
            x.ask("mix", 0, 0, 1, 2 * power(3, k));
            for (int other = 0; other < 5; other++) {
                for (int j = 0; j < 3; j++) {
                    x.due("read", other == k ? j : NONE, 0, 1, other, j);
                }
            }
            int next = (k + 1) % 5;
            x.ask("mix", 0, 0, 2, power(3, k) + power(3, next));
            x.due(22, "two together", "read", NONE, 0, 2, k, 0);
            x.due(22, "two together", "read", NONE, 0, 2, next, 0);
            x.ask("mix", 0, 0, 2, power(3, next));
            x.due(22, "the one, and so the other", "read", 2, 0, 2, k, 2);
            x.due(22, "the one", "read", 2, 0, 2, next, 2);
        }
    }

    /** 22: "OUTSIDE: k (0 .. n - 1), j"; "NONE: it does not". */
    private static void readEnds() {
        for (int n = 1; n <= 5; n++) {
            Calls x = open("seven", n, -1);
            x.due("read", 3, 0, 0, 0, 0);
            x.due("read", 3, 0, 0, n - 1, 2);
            x.due("read", NONE, 0, 3, n - 1, 2);
            for (int k : new int[] {-1, n, n + 1, 5, LOW, HIGH}) {
                x.due("read", OUTSIDE, 0, 0, k, 0);
                x.due(22, "OUTSIDE, not NONE", "read", OUTSIDE, 0, 3, k, 0);
            }
            for (int j : new int[] {-1, 3, 4, LOW, HIGH}) {
                x.due("read", OUTSIDE, 0, 0, 0, j);
                x.due(22, "OUTSIDE, not NONE", "read", OUTSIDE, 0, 3, 0, j);
            }
            x.due(22, "UNKNOWN first", "read", UNKNOWN, 0, 4, n, 3);
            x.due(22, "UNKNOWN first", "read", UNKNOWN, 1, 0, n, 3);
        }
    }

    /** Part 3: "by a number m (0 .. 16806)": 0 is a ROW of zeros. */
    private static void mixOfNought() {
        Calls x = open("seven", 5, -1);
        x.due("mix", 0, 0, 0, 1, 0);
        x.due("rank", 0, 0, 1);
        x.ask("mix", 0, 0, 1, 9);
        String rows = x.rowsOf(0, 1);
        x.due("mix", 0, 0, 0, 1, 0);
        x.dueRows(23, 0, 1, rows);
        for (int m : new int[] {-1, 16807, 16808, LOW, HIGH}) {
            x.due("mix", OUTSIDE, 0, 0, 1, m);
            x.due(23, "OUTSIDE ahead of STATE", "mix", OUTSIDE, 0, 1, 1, m);
            x.due(23, "UNKNOWN ahead of both", "mix", UNKNOWN, 0, 4, 4, m);
        }
        x.due("mix", STATE, 0, 1, 1, 0);
        x.due("mix", STATE, 0, 0, 0, 16806);
        x.dueRows(23, 0, 1, rows);
    }

    /** Part 3: m 16806: all figures of the greatest one, by each FIELD. */
    private static void mixOfTheGreatest() {
        // its figures from the lowest on: 01100 (2), 01110 (3), 11241 (5), 66666 (7); by its LEAD
        String[] due = {"01100:000", "01110:000", "11241:222", "11111:111"};
        for (int f = 0; f < 4; f++) {
            Calls x = open(WORDS[f], 5, -1);
            x.due("mix", 1, 0, 0, 1, 16806);
            x.dueRows(23, 0, 1, due[f]);
        }
    }

    /** Part 3: "(as many as it has ROWS; of the first 5 at most)": figures behind the fifth. */
    private static void mixBehindTheFifth() {
        for (int f = 0; f < 3; f++) {
            int behind = power(FIELDS[f], 5);
            Calls x = open(WORDS[f], 5, -1);
            x.due("mix", 0, 0, 0, 1, behind);
            x.due("mix", 0, 0, 0, 1, 16806 / behind * behind);
            x.due("rank", 0, 0, 1);
            x.due("mix", 1, 0, 0, 1, behind + 1);
            x.due("mix", 1, 0, 0, 2, 1);
            x.dueRows(23, 0, 1, x.rowsOf(0, 2));
            x.due("mix", 1, 0, 0, 3, behind - 1);
        }
    }

    /** Part 3: "(as many as it has ROWS ..)": figures behind its RANK. */
    private static void mixBehindTheRank() {
        for (int f = 0; f < 4; f++) {
            int p = FIELDS[f];
            for (int n = 1; n < 5; n++) {
                Calls x = open(WORDS[f], n, -1);
                x.due("mix", 0, 0, 0, 1, power(p, n));
                x.due("mix", 0, 0, 0, 1, (p - 1) * power(p, n));
                x.due("rank", 0, 0, 1);
                x.due("mix", 1, 0, 0, 1, power(p, n) + power(p, n - 1));
                x.due("mix", 1, 0, 0, 2, power(p, n - 1));
                x.dueRows(23, 0, 1, x.rowsOf(0, 2));
                x.due(23, "RANK 1 alone", "mix", 0, 0, 1, 3, p);
                x.due(23, "RANK 1 alone", "mix", 1, 0, 1, 3, p + p - 1);
                x.dueRows(23, 0, 3, x.rowsOf(0, 2));
            }
        }
    }

    /** 23: NODE a has no ROWS: a ROW of zeros comes. */
    private static void mixOfNoRows() {
        Calls x = open("five", 3, -1);
        for (int m : new int[] {0, 1, 5, 16806}) {
            x.due("mix", 0, 0, 1, 2, m);
            x.due("mix", 0, 0, 1, 0, m);
        }
        x.due("rank", 0, 0, 2);
        x.due("rank", 3, 0, 0);
    }

    /** 23: "whether its RANK rose (1, 0)": NODE 0 has RANK n and it never does. */
    private static void mixToOneThatHasAll() {
        Calls x = open("five", 2, 0b100100_111001);
        String rows = x.rowsOf(0, 0);
        x.ask("mix", 0, 0, 1, 1 + 5);
        x.ask("mix", 0, 0, 1, 1);
        for (int m = 0; m < 25; m++) {
            x.due("mix", 0, 0, 1, 0, m);
        }
        x.dueRows(23, 0, 0, rows);
        x.dueRows(23, 0, 1, rows);
    }

    /** Part 3: "the SEED (an int that wraps; 1 at first)", "shifted right by 16 (>>> 16)". */
    private static void drawWraps() {
        Calls x = open("seven", 5, 0);
        long seed = 1;
        boolean high = false;
        boolean low = false;
        for (int k = 0; k < 150; k++) {
            seed = (seed * 69069 + 12345) % 0x100000000L;
            high |= seed >= 0x80000000L;
            low |= k > 1 && seed < 0x80000000L;
            x.due("draw", (int) (seed / 65536 % 16807), 0, k % 4, (k + 1) % 4);
            x.due(31, "the SEED's lowest 16 bits", "many", (int) (seed % 65536), 8);
        }
        Due.due(24, "the SEED was below 0 and above it", high && low ? 1 : 0, 1);
        x = open("seven", 5, 0);
        x.due(24, "the first that is drawn", "draw", 1, 0, 0, 1);
        x.dueRows(24, 0, 1, "10000:000");
    }

    /** 24: NODE a has no ROWS: it is drawn nevertheless, and nothing new comes. */
    private static void drawOfNoRows() {
        Calls x = open("three", 2, 0);
        x.due("draw", 1, 0, 1, 2);
        x.due("many", 81414 % 65536, 8);
        x.due("rank", 0, 0, 2);
        x.due("rank", 0, 0, 1);
    }

    /** 24: "UNKNOWN; STATE: as for mix()": refused, nothing is drawn. */
    private static void drawRefusedDoesNotMoveTheSeed() {
        Calls x = open("two", 1, 0);
        x.due("draw", STATE, 0, 0, 0);
        x.due("draw", STATE, 0, 3, 3);
        x.due("draw", UNKNOWN, 0, 4, 4);
        x.due("draw", UNKNOWN, 0, -1, 0);
        x.due("draw", UNKNOWN, 0, 0, 4);
        x.due("draw", UNKNOWN, 1, 0, 1);
        x.due("draw", UNKNOWN, -1, 0, 0);
        x.due("many", 1, 8);
        x.due("draw", 1, 0, 0, 1);
    }

    /** 25: "The least m (0 .. 16806)": from 1 to P to the 4; it raises, and changes nothing itself. */
    private static void freshFromLeastToGreatest() {
        for (int f = 0; f < 4; f++) {
            for (int n = 1; n <= 5; n++) {
                Calls x = open(WORDS[f], n, 0);
                for (int i = 0; i < n; i++) {
                    int m = power(FIELDS[f], i);
                    x.due("fresh", m, 0, 0, 1);
                    x.due(25, "nothing came by that", "rank", i, 0, 1);
                    x.due("mix", 1, 0, 0, 1, m);
                }
                x.due("fresh", NONE, 0, 0, 1);
                for (int i = 1; i < n; i++) {
                    x.ask("mix", 0, 0, 2, power(FIELDS[f], i));
                }
                x.due(25, "it lacks the first alone", "fresh", 1, 0, 0, 2);
            }
        }
    }

    /** 25: "NONE: there is none": a has no ROWS, b has all that a has; STATE, UNKNOWN. */
    private static void freshOfNone() {
        Calls x = open("five", 3, 0);
        x.due(25, "neither has ROWS", "fresh", NONE, 0, 1, 2);
        x.due(25, "NODE 0 has all", "fresh", NONE, 0, 1, 0);
        x.ask("mix", 0, 0, 1, 7);
        x.due("fresh", NONE, 0, 1, 0);
        x.due("fresh", 1, 0, 1, 2);
        x.ask("mix", 0, 1, 2, 3);
        x.due(25, "they have the same", "fresh", NONE, 0, 1, 2);
        x.due(25, "they have the same", "fresh", NONE, 0, 2, 1);
        x.due("fresh", STATE, 0, 0, 0);
        x.due("fresh", STATE, 0, 3, 3);
        x.due("fresh", UNKNOWN, 0, 4, 4);
        x.due("fresh", UNKNOWN, 1, 0, 0);
    }

    /** 26: "NONE: .. or there are no such NODES". */
    private static void forAllOfNoSuchNodes() {
        Calls x = open("seven", 5, 0);
        for (int a = 1; a < 4; a++) {
            x.due(26, "it has no ROWS", "forAll", NONE, 0, a);
        }
        finish(x, 0, 7, 5);
        for (int a = 0; a < 4; a++) {
            x.due(26, "all have all", "forAll", NONE, 0, a);
        }
        for (int a : new int[] {-1, 4, LOW, HIGH}) {
            x.due("forAll", UNKNOWN, 0, a);
        }
        x.due("forAll", UNKNOWN, 1, 0);
        x.due("forAll", UNKNOWN, -1, 4);
    }

    /** 26: "all others whose RANK could be raised by some MIX of it": one of them, two, three. */
    private static void forAllLeavesOutWhoCannotRise() {
        Calls x = open("three", 2, 0);
        x.due(26, "three", "forAll", 1, 0, 0);
        x.ask("mix", 0, 0, 1, 1);
        x.due(26, "NODE 1 needs the other", "forAll", 3, 0, 0);
        x.due(26, "NODES 2 and 3, not NODE 0", "forAll", 1, 0, 1);
        x.ask("mix", 0, 0, 1, 3);
        x.due(26, "NODE 1 needs none", "forAll", 1, 0, 0);
        x.ask("mix", 0, 0, 2, 1);
        x.ask("mix", 0, 0, 2, 3);
        x.ask("mix", 0, 0, 3, 1);
        x.due(26, "NODE 3 alone", "forAll", 3, 0, 0);
        x.due(26, "NODE 3 alone", "forAll", 3, 0, 2);
        x.due(26, "nobody learns of NODE 3", "forAll", NONE, 0, 3);
        x.ask("mix", 0, 0, 3, 3);
        x.due("forAll", NONE, 0, 0);
    }

    /** 26: "NONE: there is none by which all of these rise": by the FIELD of two, of three NODES. */
    private static void forAllOfNoneForAll() {
        int[] due = {NONE, 5, 7, 9};
        for (int f = 0; f < 4; f++) {
            int p = FIELDS[f];
            Calls x = open(WORDS[f], 2, 0);
            x.ask("mix", 0, 0, 1, 1);
            x.ask("mix", 0, 0, 2, p);
            x.due(26, "two of them", "forAll", p + 1, 0, 0);
            x.ask("mix", 0, 0, 3, 1 + p);
            x.due(26, "three of them", "forAll", due[f], 0, 0);
            x.due(26, "each of them could rise", "fresh", p, 0, 0, 1);
            x.due("fresh", 1, 0, 0, 2);
            x.due("fresh", 1, 0, 0, 3);
            x.due(26, "nothing came by that", "rank", 1, 0, 3);
        }
    }

    /** 26: the least m is great: all need the last ROW, and others besides. */
    private static void forAllOfThreeRows() {
        for (int f = 0; f < 4; f++) {
            int p = FIELDS[f];
            Calls x = open(WORDS[f], 5, 0);
            // each lacks one ROW: the last, the one ahead of it, and the one ahead of that
            for (int node = 1; node < 4; node++) {
                for (int i = 0; i < 5; i++) {
                    if (i != 5 - node) {
                        x.ask("mix", 0, 0, node, power(p, i));
                    }
                }
            }
            int due = power(p, 4) + power(p, 3) + power(p, 2);
            x.due("forAll", due, 0, 0);
            x.due(26, "it raises NODE 1", "mix", 1, 0, 0, 1, due);
            x.due(26, "the two others", "forAll", power(p, 3) + power(p, 2), 0, 0);
        }
    }

    /** 26: the least m is greater still: of ROW 3 neither none nor one time will do; by two there is no more. */
    private static void forAllAtItsGreatest() {
        for (int f = 0; f < 4; f++) {
            int p = FIELDS[f];
            Calls x = open(WORDS[f], 5, 0);
            for (int node = 1; node < 4; node++) {
                for (int i = 0; i < 3; i++) {
                    x.ask("mix", 0, 0, node, power(p, i));
                }
            }
            x.ask("mix", 0, 0, 1, power(p, 4));
            x.ask("mix", 0, 0, 2, power(p, 4) + power(p, 3));
            x.ask("mix", 0, 0, 3, power(p, 3));
            x.due("forAll", p == 2 ? NONE : power(p, 4) + 2 * power(p, 3), 0, 0);
        }
    }

    /** 27: "how many": none open, none DONE, one, three. */
    private static void sweepNoneToThree() {
        Calls x = new Calls().field("five");
        x.due("sweep", 0);
        for (int g = 0; g < 3; g++) {
            x.ask("open", g + 1, 0);
        }
        x.due("sweep", 0);
        finish(x, 1, 5, 2);
        x.due("sweep", 1);
        x.due("sweep", 0);
        x.due("opened", 0, 0);
        x.due("opened", 2, 1);
        x.due("opened", UNKNOWN, 2);
        x.due("rank", 3, 2, 0);
        x.due("open", 3, 1, 0);
        finish(x, 0, 5, 1);
        finish(x, 2, 5, 3);
        finish(x, 3, 5, 1);
        x.due(27, "all three", "sweep", 3);
        x.due("many", 0, 6);
        x.due("many", 4, 5);
        x.due("opened", UNKNOWN, 0);
        x.due("sweep", 0);
    }

    /** Part 3: "A GENERATION is DONE, if all four NODES have its RANK n": one lacks one ROW. */
    private static void doneNeedsAllFour() {
        for (int lacks = 1; lacks < 4; lacks++) {
            Calls x = open("three", 5, 0);
            for (int node = 1; node < 4; node++) {
                for (int i = 0; i < (node == lacks ? 4 : 5); i++) {
                    x.ask("mix", 0, 0, node, power(3, i));
                }
            }
            x.due("sweep", 0);
            x.due("rank", 4, 0, lacks);
            x.due("mix", 1, 0, 0, lacks, 81);
            x.due(27, "DONE, it is open till it is swept", "many", 1, 6);
            x.due("rank", 5, 0, lacks);
            x.due("sweep", 1);
            x.due("rank", UNKNOWN, 0, lacks);
        }
    }

    /** Part 3: "sweep() takes out all that are DONE": what is opened then has nothing of the old one. */
    private static void openAgainBehindSweep() {
        Calls x = open("seven", 5, -1);
        finish(x, 0, 7, 5);
        x.ask("sweep");
        x.due("open", 1, 1, 0);
        x.dueRows(19, 1, 0, "1:000");
        for (int node = 1; node < 4; node++) {
            x.due("rank", 0, 1, node);
            x.due("rows", 0, 1, node, -1);
            x.due("read", NONE, 1, node, 0, 0);
        }
        x.due("open", 2, 5, 0);
        x.due("rank", 5, 2, 0);
        x.due("rank", 0, 2, 3);
        x.due("sweep", 0);
    }

    /** Part 3: sweep() of some of three: those that stay and those that are opened then are apart. */
    private static void sweptOnesLeaveOthersApart() {
        for (int gone = 1; gone < 7; gone++) {
            Calls x = new Calls().field("three");
            for (int g = 0; g < 3; g++) {
                x.ask("open", 2, 21 * (g + 1));
                x.ask("mix", g, 0, 1, g + 1);
            }
            int open = 3;
            for (int g = 0; g < 3; g++) {
                if ((gone >> g & 1) == 1) {
                    finish(x, g, 3, 2);
                    open--;
                }
            }
            x.due("sweep", 3 - open);
            for (int g = 3; open < 3; g++, open++) {
                x.due("open", g, 1, 0);
                x.due(27, "the new one is new", "rank", 0, g, 1);
                x.dueRows(27, g, 0, "1:000");
            }
            String[] rows = {"10:111", "10:222", "01:000"};
            int k = 0;
            for (int g = 0; g < 3; g++) {
                boolean stays = (gone >> g & 1) == 0;
                x.due(27, "the old one", "rank", stays ? 2 : UNKNOWN, g, 0);
                if (stays) {
                    x.dueRows(27, g, 1, rows[g]);
                    x.due(28, "the oldest first", "opened", g, k);
                    k++;
                }
            }
            for (int g = 3; k < 3; g++, k++) {
                x.due(28, "then the new ones", "opened", g, k);
                x.ask("mix", g, 0, 2, 1);
                x.due(27, "what comes to one comes to it alone", "rank", 1, g, 2);
            }
            for (int g = 0; g < 3; g++) {
                x.due(27, "not to an old one", "rank", (gone >> g & 1) == 0 ? 0 : UNKNOWN, g, 2);
            }
            x.due("open", FULL, 1, 0);
        }
    }

    /** 28: "UNKNOWN: there is no such one": none open, one, three. */
    private static void openedEnds() {
        Calls x = new Calls();
        x.due("opened", UNKNOWN, 0);
        for (int g = 0; g < 3; g++) {
            x.ask("open", 1, 0);
            x.due("opened", g, g);
            x.due("opened", UNKNOWN, g + 1);
        }
        for (int k : new int[] {-1, 3, 4, LOW, HIGH}) {
            x.due("opened", UNKNOWN, k);
        }
        finish(x, 0, 2, 1);
        x.due(28, "DONE, but not swept", "opened", 0, 0);
        x.ask("sweep");
        x.due(28, "the oldest that is open", "opened", 1, 0);
        x.ask("open", 1, 0);
        x.due(28, "the newest", "opened", 3, 2);
    }
}
