/** The boundary cases of part 1 and of promises 1 to 10, a method for each sentence that names one. */
public final class LettersEdgesTest {
    private static final int UNKNOWN = -1, OUTSIDE = -2, STATE = -3, FULL = -4;
    private static final int LOW = Integer.MIN_VALUE, HIGH = Integer.MAX_VALUE;

    public static void main(String[] args) {
        newObjectIsEmpty();
        objectsAreApart();
        stationsFromFirstToLast();
        lettersFromFirstToLast();
        bodiesFromLeastToGreatest();
        noLetterAtFirst();
        nobodyHasAtFirst();
        relayHasAllThatAreThere();
        sixteenEntries();
        fullTakesOneForEachThatGoes();
        orderInWhichTheyCame();
        entryNeedsLetterAndLack();
        comingToHaveEndsTheEntry();
        comingToHaveWithoutAnEntry();
        letterNoMoreTakesAll();
        letterNoMoreOfSixteen();
        airAllAtFirst();
        airEmptyAndWhole();
        mostAtFirstAndAtItsEnds();
        letterInPlace();
        refusedLetterIsNotThere();
        dropOfNone();
        hasAgain();
        hasNotLeavesEntries();
        wantCounts();
        wantAgainBehindAll();
        anewOfNothing();
        anewOfFull();
        anewLeavesTheRest();
        entryOfEmptyAndLast();
        havingNoneAndAll();
        Due.end();
    }

    /** Sixteen ENTRIES: LETTERS 0 and 1, each for all STATIONS. */
    private static Calls sixteen(int letters) {
        Calls x = new Calls().letters(letters);
        for (int k = 0; k < 16; k++) {
            x.ask("want", k / 8, k % 8);
        }
        return x;
    }

    private static void dueEntry(Calls x, int promise, int k, int l, int s) {
        x.due(promise, "LETTER of ENTRY " + k, "entry", l, k, 0);
        x.due(promise, "STATION of ENTRY " + k, "entry", s, k, 1);
    }

    /** 1: "No LETTERS, no GENERATIONS, the TAPE is empty." */
    private static void newObjectIsEmpty() {
        Calls x = new Calls();
        x.due(1, "no LETTERS", "many", 0, 0);
        x.due(1, "no ENTRIES", "many", 0, 1);
        x.due(1, "none SENT", "many", 0, 2);
        x.due(1, "none SERVED", "many", 0, 3);
        x.due(1, "P is 2 at first", "many", 2, 4);
        x.due(1, "none were opened", "many", 0, 5);
        x.due(1, "no GENERATIONS", "many", 0, 6);
        x.due(1, "the TAPE is empty", "many", 0, 7);
        x.due(1, "the SEED is 1 at first", "many", 1, 8);
        x.due(1, "no BEST", "best", 0);
        x.due(1, "nothing to serve", "serve", 0, 16);
        x.due(1, "nothing to sweep", "sweep", 0);
        x.due(1, "no word", "word", UNKNOWN);
        x.due(1, "no codes", "wipe", 0);
        x.due(1, "no ENTRIES", "anew", 0);
        x.due(1, "none open", "opened", UNKNOWN, 0);
        for (int node = 0; node < 4; node++) {
            x.due(1, "no GENERATION", "rank", UNKNOWN, 0, node);
        }
    }

    /** 1: an object is new, whatever was done with others. */
    private static void objectsAreApart() {
        Calls x = sixteen(10).field("seven");
        x.ask("air", 0);
        x.ask("most", 10);
        x.ask("open", 5, -1);
        x.ask("draw", 0, 0, 1);
        x.keys("abc");
        x.ask("send", 1023);
        Calls y = new Calls();
        int[] first = {0, 0, 0, 0, 2, 0, 0, 0, 1};
        for (int what = 0; what < 9; what++) {
            y.due(1, "of a new object beside a used one", "many", first[what], what);
        }
        y.due(1, "AIR of a new object", "air", 255, 255);
        y.due(1, "MOST of a new object", "most", 4, 4);
        x.due(1, "the used one stays as it is", "many", 16, 1);
    }

    /** Part 1: "STATIONS 0 .. 7". */
    private static void stationsFromFirstToLast() {
        Calls x = new Calls().letters(1);
        for (int s = 0; s < 8; s++) {
            x.due("having", 0, s);
            x.due("want", s + 1, 0, s);
            x.due("reads", 0, s, 1);
            x.due("has", 0, s, 0, 0);
        }
        for (int s : new int[] {-1, 8, 9, 31, 32, LOW, HIGH}) {
            x.due("having", UNKNOWN, s);
            x.due("want", UNKNOWN, 0, s);
            x.due("reads", UNKNOWN, s, 1);
            x.due("has", UNKNOWN, s, 0, 1);
        }
        x.due(10, "the last as bit 7", "sum", 255, 1, 2);
    }

    /** Part 1: "LETTERS 0 .. 9". */
    private static void lettersFromFirstToLast() {
        Calls x = new Calls();
        for (int l = 0; l < 10; l++) {
            x.due("letter", 0, l, l);
            x.due("many", l + 1, 0);
            x.due("has", 0, 3, l, 1);
            x.due(4, "LETTER as its bit", "having", (2 << l) - 1, 3);
        }
        for (int l : new int[] {-1, 10, 11, 31, 32, 41, LOW, HIGH}) {
            x.due("letter", UNKNOWN, l, 0);
            x.due("drop", UNKNOWN, l);
            x.due("has", UNKNOWN, 3, l, 0);
            x.due("want", UNKNOWN, l, 4);
        }
        x.due(2, "all ten", "many", 10, 0);
        for (int l = 9; l >= 0; l--) {
            x.due("drop", 0, l);
            x.due("many", l, 0);
        }
    }

    /** Part 1: "with a BODY (0 .. 255)". */
    private static void bodiesFromLeastToGreatest() {
        Calls x = new Calls();
        x.due("letter", 0, 2, 0);
        x.due(2, "the least BODY", "sum", 0, 4, 0);
        x.due("letter", 1, 2, 255);
        x.due(2, "the greatest BODY", "sum", 255, 4, 0);
        for (int body : new int[] {-1, 256, 511, LOW, HIGH}) {
            x.due("letter", OUTSIDE, 2, body);
        }
        x.due(2, "the BODY stays", "sum", 255, 4, 0);
    }

    /** Part 1: "A LETTER is there or not (at first none is)". */
    private static void noLetterAtFirst() {
        Calls x = new Calls();
        for (int l = 0; l < 10; l++) {
            x.due("drop", UNKNOWN, l);
            x.due("has", UNKNOWN, 0, l, 1);
            x.due("want", UNKNOWN, l, 0);
            x.due("sum", OUTSIDE, 1 << l, 0);
            x.due("reads", OUTSIDE, 0, 1 << l);
            x.due("send", OUTSIDE, 1 << l);
            x.due("text", OUTSIDE, 1 << l, -1);
        }
    }

    /** Part 1: "A STATION HAS a LETTER that is there, or does not (at first not)". */
    private static void nobodyHasAtFirst() {
        Calls x = new Calls().letters(10);
        for (int s = 0; s < 8; s++) {
            x.due("having", 0, s);
            x.due("has", 0, s, 9, 0);
            x.due("has", 0, s, 0, 0);
        }
    }

    /** Part 1: "The relay has all LETTERS that are there": it sends what no STATION HAS. */
    private static void relayHasAllThatAreThere() {
        Calls x = new Calls().letters(10);
        for (int l = 0; l < 10; l++) {
            x.due("send", 0, 1 << l);
        }
        x.due(14, "all were heard", "having", 1023, 7);
    }

    /** Part 1: "ENTRIES, 16 at most". */
    private static void sixteenEntries() {
        Calls x = new Calls().letters(3);
        for (int k = 0; k < 16; k++) {
            x.due("want", k + 1, k / 8, k % 8);
        }
        x.due(5, "the seventeenth", "want", FULL, 2, 0);
        x.due(5, "and once more", "want", FULL, 2, 7);
        x.due("many", 16, 1);
        x.due(9, "none behind the last", "entry", UNKNOWN, 16, 0);
        dueEntry(x, 9, 15, 1, 7);
    }

    /** 5: FULL is over as soon as an ENTRY is no more: by has(), drop(), send(), anew(). */
    private static void fullTakesOneForEachThatGoes() {
        Calls x = sixteen(3);
        x.ask("has", 3, 0, 1);
        x.due(5, "one went by has()", "want", 16, 2, 0);
        x.due("want", FULL, 2, 1);
        x.due("drop", 8, 1);
        x.due(5, "eight went by drop()", "want", 9, 2, 1);
        x = sixteen(3);
        x.ask("air", 2);
        x.due("send", 1, 1);
        x.due(5, "one went by send()", "want", 16, 2, 5);
        x.due("want", FULL, 2, 6);
        x.due("anew", 16);
        x.ask("letter", 0, 0);
        x.due(5, "all went by anew()", "want", 1, 0, 0);
    }

    /** Part 1: "in the order in which they came": the first, one between and the last are no more. */
    private static void orderInWhichTheyCame() {
        Calls x = new Calls().letters(10);
        int[] letters = {9, 0, 5, 5, 3};
        int[] stations = {7, 1, 6, 0, 3};
        for (int k = 0; k < 5; k++) {
            x.ask("want", letters[k], stations[k]);
        }
        for (int k = 0; k < 5; k++) {
            dueEntry(x, 9, k, letters[k], stations[k]);
        }
        x.ask("has", 6, 5, 1);
        dueEntry(x, 9, 1, 0, 1);
        dueEntry(x, 9, 2, 5, 0);
        dueEntry(x, 9, 3, 3, 3);
        x.ask("has", 7, 9, 1);
        dueEntry(x, 9, 0, 0, 1);
        x.ask("has", 3, 3, 1);
        dueEntry(x, 9, 1, 5, 0);
        x.due("entry", UNKNOWN, 2, 0);
        x.ask("has", 1, 0, 1);
        dueEntry(x, 9, 0, 5, 0);
        x.ask("has", 0, 5, 1);
        x.due(9, "none is left", "entry", UNKNOWN, 0, 0);
        x.due("many", 0, 1);
    }

    /** Part 1: "a LETTER that is there and a STATION that does not HAVE it". */
    private static void entryNeedsLetterAndLack() {
        Calls x = new Calls();
        x.due(5, "no LETTER", "want", UNKNOWN, 4, 2);
        x.ask("letter", 4, 1);
        x.ask("has", 2, 4, 1);
        x.due(5, "it HAS it", "want", STATE, 4, 2);
        x.ask("has", 2, 4, 0);
        x.due(5, "it lacks it", "want", 1, 4, 2);
        x.due(5, "there is such an ENTRY", "want", STATE, 4, 2);
        x.due(5, "another STATION", "want", 2, 4, 3);
        x.ask("drop", 4);
        x.due(5, "no LETTER any more", "want", UNKNOWN, 4, 2);
    }

    /** Part 1: "As a STATION comes to HAVE a LETTER, the ENTRY of the two, if there is one, is no more". */
    private static void comingToHaveEndsTheEntry() {
        Calls x = sixteen(2);
        x.ask("has", 7, 1, 1);
        x.due(4, "the last went", "many", 15, 1);
        dueEntry(x, 4, 14, 1, 6);
        x.ask("has", 0, 0, 1);
        x.due(4, "the first went", "many", 14, 1);
        dueEntry(x, 4, 0, 0, 1);
        dueEntry(x, 4, 13, 1, 6);
        x.ask("has", 0, 1, 1);
        x.due(4, "one between went", "many", 13, 1);
        dueEntry(x, 4, 6, 0, 7);
        dueEntry(x, 4, 7, 1, 1);
        x.due(4, "SERVED counts what is sent alone", "many", 0, 3);
        x.due(14, "by a SUM that is sent", "send", 7, 1);
        x.due("many", 6, 1);
        dueEntry(x, 14, 0, 1, 1);
    }

    /** Part 1: "if there is one": there is none for just these two. */
    private static void comingToHaveWithoutAnEntry() {
        Calls x = new Calls().letters(2);
        x.ask("want", 0, 1);
        x.ask("want", 1, 0);
        x.due("has", 0, 0, 0, 1);
        x.due("has", 0, 1, 1, 1);
        x.due(4, "the LETTER for another, another LETTER: both stay", "many", 2, 1);
    }

    /** Part 1: "as a LETTER is no more, all its ENTRIES are no more, and nobody HAS it". */
    private static void letterNoMoreTakesAll() {
        Calls x = new Calls().letters(2);
        for (int s = 0; s < 4; s++) {
            x.give(s, 3);
            x.ask("want", 1, s + 4);
            x.ask("want", 0, s + 4);
        }
        x.due("drop", 4, 1);
        for (int s = 0; s < 8; s++) {
            x.due(3, "nobody HAS it", "having", s < 4 ? 1 : 0, s);
        }
        for (int k = 0; k < 4; k++) {
            dueEntry(x, 3, k, 0, k + 4);
        }
        x.ask("letter", 1, 0);
        for (int s = 0; s < 8; s++) {
            x.due(3, "nor as it comes again", "having", s < 4 ? 1 : 0, s);
        }
        x.due(3, "no ENTRY comes again", "many", 4, 1);
        x.due(3, "and who had it may wait for it", "want", 5, 1, 0);
    }

    /** 3: "how many ENTRIES are no more by that": none, some, all. */
    private static void letterNoMoreOfSixteen() {
        Calls x = sixteen(10);
        x.due(3, "no ENTRIES of it", "drop", 0, 9);
        x.due("many", 16, 1);
        x.due(3, "the first eight", "drop", 8, 0);
        dueEntry(x, 3, 0, 1, 0);
        x.due(3, "the last eight", "drop", 8, 1);
        x.due("many", 0, 1);
        x.due("entry", UNKNOWN, 0, 0);
        x.due(3, "SERVED stays", "many", 0, 3);
    }

    /** Part 1: "AIR is a set of STATIONS (all at first)". */
    private static void airAllAtFirst() {
        Calls x = new Calls().letters(1);
        x.due(12, "all OPEN it", "sum", 255, 1, 2);
        x.due(6, "all at first", "air", 255, 0);
    }

    /** 6: "OUTSIDE: 0 .. 255": the empty set, one alone, all. */
    private static void airEmptyAndWhole() {
        Calls x = new Calls().letters(1);
        int was = 255;
        for (int set : new int[] {0, 1, 128, 127, 255, 255, 0}) {
            x.due("air", was, set);
            x.due(6, "who is in AIR", "sum", set, 1, 2);
            was = set;
        }
        for (int set : new int[] {-1, 256, 257, 511, LOW, HIGH}) {
            x.due("air", OUTSIDE, set);
        }
        x.due(6, "AIR stays", "air", 0, 0);
    }

    /** Part 1: "MOST (1 .. 10; 4 at first)"; 7: OUTSIDE. */
    private static void mostAtFirstAndAtItsEnds() {
        Calls x = new Calls();
        x.due(7, "0 is too small", "most", OUTSIDE, 0);
        x.due(7, "11 is too large", "most", OUTSIDE, 11);
        x.due(7, "4 at first", "most", 4, 1);
        for (int v : new int[] {0, 11, -1, LOW, HIGH}) {
            x.due("most", OUTSIDE, v);
        }
        x.due(7, "it stays 1", "most", 1, 10);
        x.due(7, "10 is the greatest", "most", 10, 10);
        x.due("most", 10, 5);
    }

    /** 2: "in place of any (who HAS it, and ENTRIES stay): whether it was there (1, 0)". */
    private static void letterInPlace() {
        Calls x = sixteen(2);
        x.ask("has", 6, 1, 1);
        x.due("letter", 1, 1, 255);
        x.due("letter", 1, 1, 255);
        x.due("letter", 1, 1, 0);
        x.due(2, "the last BODY", "sum", 0, 2, 0);
        x.due(2, "ENTRIES stay", "many", 15, 1);
        x.due(2, "who HAS it stays", "having", 2, 6);
        x.due(2, "it is counted once", "many", 2, 0);
        x.ask("drop", 1);
        x.due(2, "it was no more", "letter", 0, 1, 7);
    }

    /** 2: refused, a LETTER does not come, nor does a BODY change. */
    private static void refusedLetterIsNotThere() {
        Calls x = new Calls();
        x.due("letter", OUTSIDE, 0, 256);
        x.due("letter", OUTSIDE, 9, -1);
        x.due(2, "UNKNOWN first", "letter", UNKNOWN, 10, 256);
        x.due(2, "none came", "many", 0, 0);
        x.due(2, "it was not there", "letter", 0, 0, 1);
    }

    /** 3: "UNKNOWN: there is none": not yet, no more, never. */
    private static void dropOfNone() {
        Calls x = new Calls();
        x.due("drop", UNKNOWN, 0);
        x.ask("letter", 0, 0);
        x.due("drop", UNKNOWN, 1);
        x.due("drop", 0, 0);
        x.due("drop", UNKNOWN, 0);
        x.ask("letter", 0, 0);
        x.ask("anew");
        x.due("drop", UNKNOWN, 0);
    }

    /** 4: "whether it had it (1, 0)": told twice, taken twice. */
    private static void hasAgain() {
        Calls x = new Calls().letters(10);
        x.due("has", 0, 7, 9, 0);
        x.due("has", 0, 7, 9, 1);
        x.due("has", 1, 7, 9, 1);
        x.due(4, "others do not", "having", 0, 6);
        x.due(4, "it alone", "having", 512, 7);
        x.due("has", OUTSIDE, 7, 9, 2);
        x.due("has", OUTSIDE, 7, 9, -1);
        x.due("has", 1, 7, 9, 0);
        x.due("has", 0, 7, 9, 0);
    }

    /** 4: "or does not (0; ENTRIES stay as they are)": its own ENTRY, others', none comes by it. */
    private static void hasNotLeavesEntries() {
        Calls x = sixteen(3);
        x.due("has", 0, 0, 0, 0);
        x.due("has", 0, 7, 1, 0);
        x.due(4, "its own ENTRIES stay", "many", 16, 1);
        x.ask("has", 5, 2, 1);
        x.due("has", 1, 5, 2, 0);
        x.due(4, "none comes by that", "many", 16, 1);
        x.ask("has", 0, 0, 1);
        x.due("has", 1, 0, 0, 0);
        x.due(4, "the one that went stays away", "many", 15, 1);
        dueEntry(x, 4, 0, 0, 1);
    }

    /** 5: "An ENTRY comes: how many there are". */
    private static void wantCounts() {
        Calls x = new Calls().letters(10);
        for (int l = 0; l < 10; l++) {
            x.due("want", l + 1, l, 7);
        }
        x.ask("drop", 3);
        x.due(5, "nine, and one", "want", 10, 0, 6);
    }

    /** 5: an ENTRY that was no more comes again, behind all. */
    private static void wantAgainBehindAll() {
        Calls x = new Calls().letters(2);
        x.ask("want", 0, 0);
        x.ask("want", 1, 1);
        x.ask("has", 0, 0, 1);
        x.ask("has", 0, 0, 0);
        x.due("want", 2, 0, 0);
        dueEntry(x, 5, 0, 1, 1);
        dueEntry(x, 5, 1, 0, 0);
    }

    /** 8: "how many ENTRIES there were": none. */
    private static void anewOfNothing() {
        Calls x = new Calls();
        x.due("anew", 0);
        x.letters(10).due("anew", 0);
        x.due(8, "all LETTERS went", "many", 0, 0);
        x.due("anew", 0);
    }

    /** 8: "All LETTERS, ENTRIES are no more, SENT and SERVED are 0": of all there can be. */
    private static void anewOfFull() {
        Calls x = new Calls().letters(10);
        x.ask("want", 9, 0);
        x.ask("send", 512);
        for (int s = 0; s < 8; s++) {
            x.ask("want", 0, s);
            x.ask("want", 1, s);
        }
        x.due(8, "one was SENT", "many", 1, 2);
        x.due(8, "one was SERVED", "many", 1, 3);
        x.due("anew", 16);
        for (int what = 0; what < 4; what++) {
            x.due(8, "nothing is left", "many", 0, what);
        }
        for (int s = 0; s < 8; s++) {
            x.due(8, "nobody HAS anything", "having", 0, s);
        }
        x.due("entry", UNKNOWN, 0, 0);
        x.due("best", 0);
        x.due("sum", OUTSIDE, 1, 0);
        x.letters(10);
        for (int s = 0; s < 8; s++) {
            x.due(8, "nor as LETTERS come again", "having", 0, s);
        }
    }

    /** 8: "(AIR, MOST, GENERATIONS, the TAPE stay)", and P and the SEED. */
    private static void anewLeavesTheRest() {
        Calls x = new Calls().field("seven");
        x.ask("air", 0);
        x.ask("most", 10);
        x.ask("open", 5, -1);
        x.ask("open", 1, 0);
        x.ask("mix", 0, 0, 3, 16806);
        x.ask("draw", 0, 0, 1);
        x.keys("abcdefghijkl");
        int seed = x.ask("many", 8);
        String rows = x.rowsOf(0, 1);
        x.due("anew", 0);
        x.due(8, "P stays", "many", 7, 4);
        x.due(8, "they were opened", "many", 2, 5);
        x.due(8, "they are open", "many", 2, 6);
        x.due(8, "the TAPE stays", "many", 12, 7);
        x.due(8, "the TAPE is FULL", "key", FULL, 0);
        x.due(8, "the SEED stays", "many", seed, 8);
        x.due(8, "AIR stays", "air", 0, 0);
        x.due(8, "MOST stays", "most", 10, 10);
        x.dueRows(8, 0, 1, rows);
        x.due("rank", 1, 0, 3);
    }

    /** 9: "UNKNOWN: there is no such ENTRY; OUTSIDE": of none, of one, of sixteen. */
    private static void entryOfEmptyAndLast() {
        Calls x = new Calls().letters(2);
        x.due("entry", UNKNOWN, 0, 0);
        x.due("entry", UNKNOWN, 0, 1);
        x.due(9, "UNKNOWN first", "entry", UNKNOWN, 0, 2);
        x.ask("want", 1, 7);
        dueEntry(x, 9, 0, 1, 7);
        x.due("entry", UNKNOWN, 1, 0);
        x.due("entry", OUTSIDE, 0, 2);
        x.due("entry", OUTSIDE, 0, -1);
        x = sixteen(2);
        for (int k = 0; k < 16; k++) {
            dueEntry(x, 9, k, k / 8, k % 8);
        }
        for (int k : new int[] {-1, 16, 17, LOW, HIGH}) {
            x.due("entry", UNKNOWN, k, 0);
            x.due("entry", UNKNOWN, k, 1);
            x.due("entry", UNKNOWN, k, 2);
        }
    }

    /** 10: "The set of LETTERS that a STATION HAS": none, all. */
    private static void havingNoneAndAll() {
        Calls x = new Calls().letters(10).give(7, 1023).give(0, 1);
        x.due("having", 1023, 7);
        x.due("having", 1, 0);
        x.due("having", 0, 1);
        x.ask("drop", 0);
        x.due("having", 1022, 7);
        x.due(10, "its only one went", "having", 0, 0);
    }
}
