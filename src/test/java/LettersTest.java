/** Promises 1 to 10: letters, stations, the queue. */
public final class LettersTest {
    private static final int[] NO_NUMBERS = {-1, 8, 9, 10, 31, 32, 100, Integer.MAX_VALUE, Integer.MIN_VALUE};

    public static void main(String[] args) {
        newObject();
        letter();
        drop();
        has();
        want();
        wantIsFull();
        air();
        most();
        anew();
        entry();
        having();
        Due.end();
    }

    private static void newObject() {
        AddedLetters x = new AddedLetters();
        int[] first = {0, 0, 0, 0, 2, 0, 0, 0, 1};
        for (int what = 0; what < first.length; what++) {
            Due.due(1, "many(" + what + ") of a new object", x.many(what), first[what]);
        }
        for (int s = 0; s < 8; s++) {
            Due.due(1, "having(" + s + ")", x.having(s), 0);
        }
        Due.due(1, "air at first", x.air(255), 255);
        Due.due(1, "most at first", x.most(4), 4);
        Due.due(1, "opened(0) at first", x.opened(0), -1);
        Due.due(1, "wipe at first", x.wipe(), 0);
        x.letter(0, 1);
        x.key(9);
        Due.due(1, "letters of another object", new AddedLetters().many(0), 0);
        Due.due(1, "codes of another object", new AddedLetters().many(7), 0);
    }

    private static void letter() {
        AddedLetters x = new AddedLetters();
        for (int l = 0; l < 10; l++) {
            Due.due(2, "letter(l, 0), new", x.letter(l, 0), 0);
            Due.due(2, "letter(l, 255), again", x.letter(l, 255), 1);
        }
        Due.due(2, "many(0)", x.many(0), 10);
        Due.due(2, "letter(10, 0)", x.letter(10, 0), -1);
        Due.due(2, "letter(-1, 0)", x.letter(-1, 0), -1);
        Due.due(2, "letter(32, 0)", x.letter(32, 0), -1);
        Due.due(2, "letter(-1, 256): UNKNOWN first", x.letter(-1, 256), -1);
        Due.due(2, "letter(0, 256)", x.letter(0, 256), -2);
        Due.due(2, "letter(0, -1)", x.letter(0, -1), -2);
        Due.due(2, "BODY after refusals", x.sum(1, 0), 255);

        x = new AddedLetters();
        x.letter(4, 17);
        x.has(2, 4, 1);
        x.want(4, 3);
        Due.due(2, "letter(4, 18)", x.letter(4, 18), 1);
        Due.due(2, "BODY in place of the old", x.sum(16, 0), 18);
        Due.due(2, "who HAS it stays", x.having(2), 16);
        Due.due(2, "ENTRIES stay", x.many(1), 1);
        Due.due(2, "a refused LETTER is not there", x.letter(5, 256), -2);
        Due.due(2, "many(0)", x.many(0), 1);
    }

    private static void drop() {
        AddedLetters x = new AddedLetters();
        for (int l : NO_NUMBERS) {
            Due.due(3, "drop(" + l + ")", x.drop(l), -1);
        }
        x.letter(1, 1);
        x.letter(2, 2);
        x.has(0, 1, 1);
        x.has(0, 2, 1);
        x.want(1, 5);
        x.want(2, 5);
        x.want(1, 6);
        x.want(2, 4);
        Due.due(3, "drop(33)", x.drop(33), -1);
        Due.due(3, "drop(1)", x.drop(1), 2);
        Due.due(3, "drop(1) again", x.drop(1), -1);
        Due.due(3, "nobody HAS it", x.having(0), 4);
        Due.due(3, "many(0)", x.many(0), 1);
        Due.due(3, "many(1)", x.many(1), 2);
        Due.due(3, "entry(0, 0)", x.entry(0, 0), 2);
        Due.due(3, "entry(0, 1)", x.entry(0, 1), 5);
        Due.due(3, "entry(1, 1)", x.entry(1, 1), 4);
        Due.due(3, "SERVED is not touched", x.many(3), 0);
        Due.due(3, "it comes back", x.letter(1, 1), 0);
        Due.due(3, "and nobody HAS it", x.having(0), 4);
        Due.due(3, "drop(1) without ENTRIES", x.drop(1), 0);
    }

    private static void has() {
        AddedLetters x = new AddedLetters();
        x.letter(9, 1);
        Due.due(4, "has(7, 9, 1)", x.has(7, 9, 1), 0);
        Due.due(4, "has(7, 9, 1)", x.has(7, 9, 1), 1);
        Due.due(4, "having(7)", x.having(7), 512);
        Due.due(4, "has(7, 9, 0)", x.has(7, 9, 0), 1);
        Due.due(4, "has(7, 9, 0)", x.has(7, 9, 0), 0);
        Due.due(4, "having(7)", x.having(7), 0);
        Due.due(4, "has(8, 9, 1)", x.has(8, 9, 1), -1);
        Due.due(4, "has(-1, 9, 1)", x.has(-1, 9, 1), -1);
        Due.due(4, "has(0, 8, 1)", x.has(0, 8, 1), -1);
        Due.due(4, "has(0, -1, 1)", x.has(0, -1, 1), -1);
        Due.due(4, "has(0, 10, 1)", x.has(0, 10, 1), -1);
        Due.due(4, "has(0, 41, 1): no wrapped shift", x.has(0, 41, 1), -1);
        Due.due(4, "has(0, 8, 2): UNKNOWN first", x.has(0, 8, 2), -1);
        Due.due(4, "has(0, 9, 2)", x.has(0, 9, 2), -2);
        Due.due(4, "has(0, 9, -1)", x.has(0, 9, -1), -2);
        x.want(9, 0);
        x.want(9, 1);
        x.has(0, 9, 0);
        Due.due(4, "ENTRIES stay with v 0", x.many(1), 2);
        x.has(0, 9, 1);
        Due.due(4, "the ENTRY of the two is no more", x.many(1), 1);
        Due.due(4, "the other stays", x.entry(0, 1), 1);
        Due.due(4, "SERVED stays 0", x.many(3), 0);
        x.has(0, 9, 0);
        Due.due(4, "no ENTRY comes back", x.many(1), 1);
    }

    private static void want() {
        AddedLetters x = new AddedLetters();
        Due.due(5, "want(0, 0)", x.want(0, 0), -1);
        x.letter(0, 0);
        x.letter(1, 0);
        Due.due(5, "want(0, 8)", x.want(0, 8), -1);
        Due.due(5, "want(0, -1)", x.want(0, -1), -1);
        Due.due(5, "want(10, 0)", x.want(10, 0), -1);
        Due.due(5, "want(-1, 0)", x.want(-1, 0), -1);
        Due.due(5, "want(32, 0)", x.want(32, 0), -1);
        Due.due(5, "want(0, 1)", x.want(0, 1), 1);
        Due.due(5, "want(0, 1)", x.want(0, 1), -3);
        Due.due(5, "want(1, 0)", x.want(1, 0), 2);
        x.has(3, 0, 1);
        Due.due(5, "want(0, 3)", x.want(0, 3), -3);
        Due.due(5, "want(1, 3)", x.want(1, 3), 3);
        x.has(3, 0, 0);
        Due.due(5, "want(0, 3)", x.want(0, 3), 4);
    }

    private static void wantIsFull() {
        AddedLetters x = new AddedLetters();
        x.letter(0, 0);
        x.letter(1, 0);
        x.letter(2, 0);
        x.has(7, 2, 1);
        for (int k = 0; k < 16; k++) {
            Due.due(5, "ENTRY " + k, x.want(k / 8, k % 8), k + 1);
        }
        Due.due(5, "want(2, 0)", x.want(2, 0), -4);
        Due.due(5, "want(1, 0): STATE first", x.want(1, 0), -3);
        Due.due(5, "want(2, 7): STATE first", x.want(2, 7), -3);
        Due.due(5, "want(3, 0): UNKNOWN first", x.want(3, 0), -1);
        Due.due(5, "many(1)", x.many(1), 16);
        x.has(0, 0, 1);
        Due.due(5, "want(2, 0)", x.want(2, 0), 16);
        Due.due(5, "the last came last", x.entry(15, 0), 2);
        Due.due(5, "the first moved up", x.entry(0, 1), 1);
    }

    private static void air() {
        AddedLetters x = new AddedLetters();
        Due.due(6, "air(-1)", x.air(-1), -2);
        Due.due(6, "air(256)", x.air(256), -2);
        Due.due(6, "air(0)", x.air(0), 255);
        Due.due(6, "air(129)", x.air(129), 0);
        Due.due(6, "air(255)", x.air(255), 129);
        x.air(6);
        x.letter(0, 0);
        Due.due(6, "who OPENS it in AIR", x.sum(1, 2), 6);
        x.send(1);
        for (int s = 0; s < 8; s++) {
            Due.due(6, "having(" + s + ")", x.having(s), s == 1 || s == 2 ? 1 : 0);
        }
    }

    private static void most() {
        AddedLetters x = new AddedLetters();
        Due.due(7, "most(0)", x.most(0), -2);
        Due.due(7, "most(11)", x.most(11), -2);
        Due.due(7, "most(-4)", x.most(-4), -2);
        Due.due(7, "most(1)", x.most(1), 4);
        Due.due(7, "most(10)", x.most(10), 1);
        Due.due(7, "most(3)", x.most(3), 10);
        Due.due(7, "most(3)", x.most(3), 3);
    }

    private static void anew() {
        AddedLetters x = new AddedLetters();
        x.letter(0, 1);
        x.letter(1, 2);
        x.want(0, 0);
        x.want(0, 1);
        x.want(1, 1);
        x.has(5, 1, 1);
        x.air(3);
        x.most(2);
        x.key(116);
        x.open(2, 7);
        x.draw(0, 0, 1);
        int seed = x.many(8);
        x.send(1);
        Due.due(8, "SENT ahead of it", x.many(2), 1);
        Due.due(8, "SERVED ahead of it", x.many(3), 2);
        Due.due(8, "anew()", x.anew(), 1);
        int[] then = {0, 0, 0, 0, 2, 1, 1, 1, seed};
        for (int what = 0; what < then.length; what++) {
            Due.due(8, "many(" + what + ")", x.many(what), then[what]);
        }
        Due.due(8, "AIR stays", x.air(3), 3);
        Due.due(8, "MOST stays", x.most(2), 2);
        Due.due(8, "having(5)", x.having(5), 0);
        Due.due(8, "anew() again", x.anew(), 0);
        Due.due(8, "the LETTER is new then", x.letter(1, 3), 0);
        Due.due(8, "nobody HAS it", x.having(5), 0);
        Due.due(8, "no ENTRY is left", x.entry(0, 0), -1);
        Due.due(8, "want(1, 1)", x.want(1, 1), 1);
    }

    private static void entry() {
        AddedLetters x = new AddedLetters();
        x.letter(3, 0);
        x.letter(8, 0);
        x.want(8, 2);
        x.want(3, 7);
        Due.due(9, "entry(0, 0)", x.entry(0, 0), 8);
        Due.due(9, "entry(0, 1)", x.entry(0, 1), 2);
        Due.due(9, "entry(1, 0)", x.entry(1, 0), 3);
        Due.due(9, "entry(1, 1)", x.entry(1, 1), 7);
        Due.due(9, "entry(2, 0)", x.entry(2, 0), -1);
        Due.due(9, "entry(-1, 0)", x.entry(-1, 0), -1);
        Due.due(9, "entry(16, 0)", x.entry(16, 0), -1);
        Due.due(9, "entry(2, 2): UNKNOWN first", x.entry(2, 2), -1);
        Due.due(9, "entry(1, 2)", x.entry(1, 2), -2);
        Due.due(9, "entry(1, -1)", x.entry(1, -1), -2);
    }

    private static void having() {
        AddedLetters x = new AddedLetters();
        for (int s : NO_NUMBERS) {
            Due.due(10, "having(" + s + ")", x.having(s), -1);
        }
        for (int l = 0; l < 10; l++) {
            x.letter(l, l);
            x.has(l % 8, l, 1);
        }
        int[] sets = {257, 514, 4, 8, 16, 32, 64, 128};
        for (int s = 0; s < 8; s++) {
            Due.due(10, "having(" + s + ")", x.having(s), sets[s]);
        }
    }
}
