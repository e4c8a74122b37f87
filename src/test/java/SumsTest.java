/** Promises 11 to 15: sums. */
public final class SumsTest {
    public static void main(String[] args) {
        reads();
        sum();
        best();
        bestOfEquals();
        bestOfMost();
        bestWithinAir();
        send();
        serve();
        serveSixteen();
        Due.end();
    }

    /** An object with LETTERS 0 .. n - 1, BODY 17 * l. */
    private static AddedLetters withLetters(int n) {
        AddedLetters x = new AddedLetters();
        for (int l = 0; l < n; l++) {
            x.letter(l, 17 * l);
        }
        return x;
    }

    private static void give(AddedLetters x, int s, int set) {
        for (int l = 0; l < 10; l++) {
            if ((set >> l & 1) == 1) {
                x.has(s, l, 1);
            }
        }
    }

    private static void reads() {
        AddedLetters x = withLetters(10);
        x.drop(8);
        give(x, 0, 0b11);
        give(x, 1, 0b1011111111);
        Due.due(11, "reads(0, 0b111)", x.reads(0, 0b111), 2);
        Due.due(11, "reads(0, 0b11): has all", x.reads(0, 0b11), -9);
        Due.due(11, "reads(0, 0b1111): lacks two", x.reads(0, 0b1111), -9);
        Due.due(11, "reads(0, 512)", x.reads(0, 512), 9);
        Due.due(11, "reads(0, 513)", x.reads(0, 513), 9);
        Due.due(11, "reads(2, 1)", x.reads(2, 1), 0);
        Due.due(11, "reads(2, 3)", x.reads(2, 3), -9);
        x.has(1, 5, 0);
        Due.due(11, "reads(1, all)", x.reads(1, 0b1011111111), 5);
        Due.due(11, "reads(8, 1)", x.reads(8, 1), -1);
        Due.due(11, "reads(-1, 0): UNKNOWN first", x.reads(-1, 0), -1);
        Due.due(11, "reads(0, 0)", x.reads(0, 0), -2);
        Due.due(11, "reads(0, -1)", x.reads(0, -1), -2);
        Due.due(11, "reads(0, 1024)", x.reads(0, 1024), -2);
        Due.due(11, "reads(0, 1025)", x.reads(0, 1025), -2);
        Due.due(11, "reads(0, 256)", x.reads(0, 256), -2);
        Due.due(11, "reads(0, least int)", x.reads(0, Integer.MIN_VALUE), -2);
        x.air(0);
        Due.due(11, "reads needs no AIR", x.reads(0, 0b111), 2);
    }

    private static void sum() {
        AddedLetters x = withLetters(4);
        give(x, 0, 0b0110);
        give(x, 1, 0b0101);
        give(x, 2, 0b0011);
        x.want(0, 0);
        x.want(1, 1);
        x.want(3, 2);
        x.want(0, 3);
        Due.due(12, "sum(0b111, 0)", x.sum(0b111, 0), 17 ^ 34);
        Due.due(12, "sum(0b1111, 0)", x.sum(0b1111, 0), 17 ^ 34 ^ 51);
        Due.due(12, "sum(0b111, 1)", x.sum(0b111, 1), 2);
        Due.due(12, "sum(0b111, 2)", x.sum(0b111, 2), 0b111);
        Due.due(12, "sum(1, 1)", x.sum(1, 1), 2);
        Due.due(12, "sum(1, 2)", x.sum(1, 2), 0b11111001);
        Due.due(12, "sum(0b1001, 1)", x.sum(0b1001, 1), 1);
        x.air(0b11111110);
        Due.due(12, "sum(0b111, 1)", x.sum(0b111, 1), 1);
        Due.due(12, "sum(0b111, 2)", x.sum(0b111, 2), 0b110);
        Due.due(12, "sum(0b111, 3)", x.sum(0b111, 3), -2);
        Due.due(12, "sum(0b111, -1)", x.sum(0b111, -1), -2);
        for (int what = 0; what < 3; what++) {
            Due.due(12, "sum(0, what)", x.sum(0, what), -2);
            Due.due(12, "sum(16, what)", x.sum(16, what), -2);
            Due.due(12, "sum(17, what)", x.sum(17, what), -2);
            Due.due(12, "sum(-1, what)", x.sum(-1, what), -2);
            Due.due(12, "sum(1024, what)", x.sum(1024, what), -2);
        }
    }

    private static void best() {
        AddedLetters x = withLetters(3);
        Due.due(13, "best() without ENTRIES", x.best(), 0);
        x.want(1, 0);
        Due.due(13, "best(), a LETTER alone", x.best(), 2);
        give(x, 0, 0b101);
        Due.due(13, "best(), the fewest LETTERS", x.best(), 2);
        x.want(0, 1);
        give(x, 1, 0b010);
        Due.due(13, "best(), for two", x.best(), 3);
        x.want(2, 2);
        give(x, 2, 0b011);
        Due.due(13, "best(), no SUM of three serves all", x.best(), 3);
        give(x, 1, 0b100);
        Due.due(13, "best(), for three", x.best(), 7);
        Due.due(13, "nothing is sent by that", x.many(2), 0);
        Due.due(13, "nothing is changed by that", x.many(1), 3);
    }

    private static void bestOfEquals() {
        AddedLetters x = withLetters(5);
        x.want(4, 0);
        give(x, 0, 0b1111);
        give(x, 1, 0b10000);
        give(x, 2, 0b10000);
        x.want(3, 1);
        x.want(1, 2);
        Due.due(13, "best(), of two pairs the least", x.best(), 0b10010);
        x.want(3, 2);
        Due.due(13, "best(), the pair that serves more", x.best(), 0b11000);
        // two for 4 alone, and two for each pair: the fewest LETTERS
        x = withLetters(5);
        x.want(4, 0);
        give(x, 0, 0b1111);
        x.want(4, 3);
        give(x, 1, 0b10000);
        x.want(0, 1);
        Due.due(13, "best(), the fewest of equals", x.best(), 0b10000);
        // a lone LETTER that serves others is no BEST, if the first ENTRY has no part in it
        x = withLetters(2);
        x.want(1, 0);
        for (int s = 1; s < 8; s++) {
            x.want(0, s);
        }
        Due.due(13, "best() serves the first ENTRY", x.best(), 2);
    }

    private static void bestOfMost() {
        AddedLetters x = withLetters(8);
        for (int s = 0; s < 8; s++) {
            give(x, s, 0b11111111 & ~(1 << s));
            x.want(s, s);
        }
        int[] due = {1, 3, 7, 15, 31, 63, 127, 255, 255, 255};
        for (int v = 1; v <= 10; v++) {
            x.most(v);
            Due.due(13, "best() with MOST " + v, x.best(), due[v - 1]);
        }
        x = withLetters(8);
        for (int s = 0; s < 8; s++) {
            give(x, s, 0b11111111 & ~(1 << s));
            x.want(s, s);
        }
        Due.due(13, "best() with MOST of a new object", x.best(), 15);
    }

    private static void bestWithinAir() {
        AddedLetters x = withLetters(4);
        x.want(0, 0);
        x.want(1, 1);
        x.want(2, 2);
        give(x, 0, 0b1110);
        give(x, 1, 0b1101);
        give(x, 2, 0b1011);
        Due.due(13, "best()", x.best(), 7);
        x.air(0b110);
        Due.due(13, "best() without STATION 0", x.best(), 6);
        x.air(0b101);
        Due.due(13, "best() without STATION 1", x.best(), 5);
        x.air(0b100);
        Due.due(13, "best() with STATION 2 alone", x.best(), 4);
        x.air(0b11111000);
        Due.due(13, "best() with nobody who waits", x.best(), 0);
    }

    private static void send() {
        AddedLetters x = withLetters(3);
        Due.due(14, "send(0)", x.send(0), -2);
        Due.due(14, "send(8)", x.send(8), -2);
        Due.due(14, "send(9)", x.send(9), -2);
        Due.due(14, "send(-1)", x.send(-1), -2);
        Due.due(14, "send(1024)", x.send(1024), -2);
        Due.due(14, "nothing was sent", x.many(2), 0);
        give(x, 0, 0b110);
        give(x, 1, 0b101);
        give(x, 2, 0b011);
        give(x, 3, 0b110);
        give(x, 4, 0b111);
        x.air(0b11110111);
        x.want(0, 0);
        x.want(2, 2);
        x.want(0, 3);
        x.want(0, 5);
        Due.due(14, "send(7)", x.send(7), 2);
        int[] sets = {7, 7, 7, 6, 7, 0, 0, 0};
        for (int s = 0; s < 8; s++) {
            Due.due(14, "having(" + s + ")", x.having(s), sets[s]);
        }
        Due.due(14, "SENT", x.many(2), 1);
        Due.due(14, "SERVED", x.many(3), 2);
        Due.due(14, "entry(0, 1)", x.entry(0, 1), 3);
        Due.due(14, "entry(1, 1)", x.entry(1, 1), 5);
        Due.due(14, "send(7) for nobody", x.send(7), 0);
        Due.due(14, "SENT", x.many(2), 2);
        Due.due(14, "SERVED", x.many(3), 2);
        Due.due(14, "send(1)", x.send(1), 1);
        Due.due(14, "SERVED", x.many(3), 3);
        Due.due(14, "having(7)", x.having(7), 1);
        x.send(2);
        Due.due(14, "having(7), one more", x.having(7), 3);
    }

    private static void serve() {
        AddedLetters x = withLetters(4);
        Due.due(15, "serve(-1)", x.serve(-1), -2);
        Due.due(15, "serve(17)", x.serve(17), -2);
        Due.due(15, "serve(16) without ENTRIES", x.serve(16), 0);
        x.want(0, 0);
        give(x, 0, 2);
        x.want(1, 1);
        give(x, 1, 1);
        x.want(2, 2);
        x.want(3, 3);
        Due.due(15, "serve(0)", x.serve(0), 0);
        Due.due(15, "nothing was sent", x.many(2), 0);
        Due.due(15, "serve(1)", x.serve(1), 1);
        Due.due(15, "SERVED", x.many(3), 2);
        Due.due(15, "having(4) reads no pair", x.having(4), 0);
        x.air(0b11111011);
        Due.due(15, "serve(5)", x.serve(5), 1);
        Due.due(15, "SENT", x.many(2), 2);
        Due.due(15, "SERVED", x.many(3), 3);
        Due.due(15, "having(4)", x.having(4), 8);
        Due.due(15, "entry(0, 0)", x.entry(0, 0), 2);
        x.air(255);
        Due.due(15, "serve(16)", x.serve(16), 1);
        Due.due(15, "many(1)", x.many(1), 0);
    }

    private static void serveSixteen() {
        AddedLetters x = withLetters(10);
        x.most(1);
        for (int l = 0; l < 10; l++) {
            x.want(l, 0);
        }
        Due.due(15, "serve(7)", x.serve(7), 7);
        Due.due(15, "entry(0, 0)", x.entry(0, 0), 7);
        Due.due(15, "serve(16)", x.serve(16), 3);
        Due.due(15, "SENT", x.many(2), 10);
        Due.due(15, "SERVED", x.many(3), 10);
        Due.due(15, "having(5): all heard it", x.having(5), 1023);
        // one LETTER each for sixteen ENTRIES: AIR is changed by none of it
        x.anew();
        for (int l = 0; l < 10; l++) {
            x.letter(l, l);
            x.want(l, 0);
        }
        x.air(1);
        Due.due(15, "serve(16)", x.serve(16), 10);
        Due.due(15, "having(1)", x.having(1), 0);
        Due.due(15, "AIR stays", x.air(255), 1);
    }
}
