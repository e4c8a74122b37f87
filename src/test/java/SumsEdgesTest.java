/** The boundary cases of part 2 and of promises 11 to 15, a method for each sentence that names one. */
public final class SumsEdgesTest {
    private static final int UNKNOWN = -1, OUTSIDE = -2, NONE = -9;
    private static final int LOW = Integer.MIN_VALUE, HIGH = Integer.MAX_VALUE;
    private static final int ALL = 1023;

    public static void main(String[] args) {
        sumOfOneOrMore();
        sumAllThere();
        bodyByExclusiveOr();
        opensAllButOne();
        readsFirstAndLast();
        readsOutOfAir();
        servesInAir();
        servesItsOwnLetter();
        sumServesNoneAndAll();
        sumByAirEmpty();
        bestWithoutEntries();
        bestOfAnEmptyAir();
        bestOfSixteenOutOfAir();
        bestOfJustMost();
        bestWithMostOne();
        bestOfEight();
        bestIsForTheFirstInAir();
        bestServesTheMost();
        bestOfTheFewest();
        bestOfTheFewestIsAGreaterNumber();
        bestOfTheLeast();
        bestAloneIsAlwaysThere();
        sendToNobody();
        sendToAll();
        sendByWhatTheyHaveAhead();
        sentAndServedSinceAnew();
        serveNoneToSixteen();
        serveOutside();
        serveJustSoMany();
        serveStopsAsNoneIsLeft();
        Due.end();
    }

    /** Part 2: "a set of one LETTER or more": none is no SUM, one is, all are. */
    private static void sumOfOneOrMore() {
        Calls x = new Calls().letters(10);
        for (int set : new int[] {1, 512, ALL}) {
            x.due("send", 0, set);
        }
        x.due(14, "three were sent", "many", 3, 2);
        for (int set : new int[] {0, -1, 1024, 1025, 2047, LOW, LOW + 1, HIGH, -ALL}) {
            x.due("reads", OUTSIDE, 0, set);
            for (int what = 0; what < 3; what++) {
                x.due("sum", OUTSIDE, set, what);
            }
            x.due("send", OUTSIDE, set);
            x.due("text", OUTSIDE, set, -1);
        }
        x.due(14, "no more were sent", "many", 3, 2);
    }

    /** Part 2: "all there": one that is not makes it no SUM. */
    private static void sumAllThere() {
        for (int l = 0; l < 10; l++) {
            Calls x = new Calls().letters(10);
            x.ask("drop", l);
            x.due("sum", OUTSIDE, ALL, 0);
            x.due("reads", OUTSIDE, 7, 1 << l);
            x.due("send", OUTSIDE, ALL);
            x.due("text", OUTSIDE, 1 << l, 0);
            x.due("reads", NONE, 7, ALL - (1 << l));
            x.due("send", 0, ALL - (1 << l));
        }
    }

    /** Part 2: "the BODIES of all, by exclusive or": one, twice the same, bits that are apart. */
    private static void bodyByExclusiveOr() {
        Calls x = new Calls();
        for (int l = 0; l < 10; l++) {
            x.ask("letter", l, 255);
        }
        x.due("sum", 255, 512, 0);
        x.due("sum", 0, 3, 0);
        x.due("sum", 255, 7, 0);
        x.due("sum", 0, ALL, 0);
        for (int l = 0; l < 8; l++) {
            x.ask("letter", l, 1 << l);
        }
        x.due("sum", 255, 255, 0);
        x.due("sum", 129, 129, 0);
        x.due("sum", 254, 513, 0);
    }

    /** Part 2: "OPENS it, if it HAS all of them but one": all, all but one, all but two, none; one alone. */
    private static void opensAllButOne() {
        Calls x = new Calls().letters(10).give(0, ALL);
        x.due(11, "it HAS all", "reads", NONE, 0, ALL);
        x.due(11, "it HAS the one", "reads", NONE, 0, 1);
        x.ask("has", 0, 4, 0);
        x.due(11, "all but one", "reads", 4, 0, ALL);
        x.ask("has", 0, 9, 0);
        x.due(11, "all but two", "reads", NONE, 0, ALL);
        x.due(11, "all but one of these", "reads", 9, 0, ALL - 16);
        x.due(11, "it HAS all of these", "reads", NONE, 0, ALL - 16 - 512);
        x.due(11, "none of ten", "reads", NONE, 1, ALL);
        x.due(11, "none of two", "reads", NONE, 1, 3);
        x.due(11, "none of one", "reads", 0, 1, 1);
        x.due(12, "one OPENS it", "sum", 1, ALL - 16, 2);
        x.due(12, "nobody OPENS it", "sum", 0, ALL, 2);
    }

    /** 11: "What a STATION reads": the first LETTER, the last, each. */
    private static void readsFirstAndLast() {
        Calls x = new Calls().letters(10);
        for (int l = 0; l < 10; l++) {
            x.due("reads", l, 7, 1 << l);
        }
        for (int l = 0; l < 10; l++) {
            x.give(3, ALL);
            x.ask("has", 3, l, 0);
            x.due("reads", l, 3, ALL);
        }
    }

    /** 11: it asks for no AIR. */
    private static void readsOutOfAir() {
        Calls x = new Calls().letters(10).give(5, ALL - 1);
        x.ask("air", 0);
        x.due("reads", 0, 5, ALL);
        x.due("reads", NONE, 5, ALL - 1);
        x.due("reads", UNKNOWN, 8, ALL);
        x.due("reads", UNKNOWN, -1, 0);
        x.due("reads", OUTSIDE, 5, 0);
    }

    /** Part 2: "SERVES an ENTRY, if its STATION is in AIR". */
    private static void servesInAir() {
        Calls x = new Calls().letters(1);
        x.ask("want", 0, 7);
        x.due("sum", 1, 1, 1);
        x.ask("air", 127);
        x.due(12, "not in AIR", "sum", 0, 1, 1);
        x.due(14, "not in AIR", "send", 0, 1);
        x.due(14, "it did not hear it", "having", 0, 7);
        x.due(14, "others did", "having", 1, 6);
        x.due(14, "the ENTRY stays", "many", 1, 1);
        x.ask("air", 128);
        x.due(14, "in AIR", "send", 1, 1);
    }

    /** Part 2: "and reads the LETTER of the ENTRY": it reads another one, it reads none. */
    private static void servesItsOwnLetter() {
        Calls x = new Calls().letters(3);
        x.ask("want", 0, 2);
        x.due(12, "it reads another one", "sum", 0, 2, 1);
        x.due(12, "it reads none", "sum", 0, 3, 1);
        x.due(12, "it reads it", "sum", 1, 1, 1);
        x.ask("has", 2, 1, 1);
        x.due(12, "it reads it of two", "sum", 1, 3, 1);
        x.due(14, "another one is sent", "send", 0, 4);
        x.due(14, "it HAS it, the ENTRY stays", "having", 6, 2);
        x.due("many", 1, 1);
        x.due(14, "none SERVED", "many", 0, 3);
    }

    /** 12: "how many ENTRIES it SERVES": none, eight (of sixteen); "the set of STATIONS in AIR that OPEN it". */
    private static void sumServesNoneAndAll() {
        Calls x = new Calls().letters(3);
        x.due("sum", 0, 1, 1);
        for (int s = 0; s < 8; s++) {
            x.ask("want", 0, s);
            x.ask("want", 1, s);
        }
        x.due("sum", 8, 1, 1);
        x.due("sum", 8, 2, 1);
        x.due("sum", 0, 4, 1);
        x.due("sum", 0, 3, 1);
        x.due("sum", 255, 4, 2);
        x.due("sum", 0, 3, 2);
        for (int what : new int[] {-1, 3, 4, LOW, HIGH}) {
            x.due("sum", OUTSIDE, 1, what);
        }
    }

    /** Part 1, 12: AIR is empty: nobody in it OPENS anything. */
    private static void sumByAirEmpty() {
        Calls x = new Calls().letters(2);
        x.ask("want", 0, 0);
        x.ask("air", 0);
        x.due("sum", 17, 2, 0);
        x.due("sum", 0, 1, 1);
        x.due("sum", 0, 1, 2);
    }

    /** 13: "0: there is none". */
    private static void bestWithoutEntries() {
        Calls x = new Calls();
        x.due("best", 0);
        x.letters(10).due("best", 0);
        x.ask("want", 9, 7);
        x.due("best", 512);
        x.ask("drop", 9);
        x.due("best", 0);
        x.ask("want", 0, 0);
        x.due("best", 1);
        x.ask("has", 0, 0, 1);
        x.due("best", 0);
    }

    /** Part 2: "there is none just if there is no such ENTRY": nobody in AIR waits. */
    private static void bestOfAnEmptyAir() {
        Calls x = new Calls().letters(2);
        x.ask("want", 0, 0);
        x.ask("want", 1, 7);
        x.ask("air", 0);
        x.due("best", 0);
        x.due("serve", 0, 16);
        x.ask("air", 126);
        x.due("best", 0);
        x.ask("air", 254);
        x.due("best", 2);
        x.ask("air", 1);
        x.due("best", 1);
        x.due(13, "nothing was sent", "many", 0, 2);
    }

    /** Part 2: "there is none just if there is no such ENTRY": sixteen wait, none of them in AIR, then the last. */
    private static void bestOfSixteenOutOfAir() {
        Calls x = new Calls().letters(10);
        for (int k = 0; k < 15; k++) {
            x.ask("want", k % 8, k / 8);
        }
        x.ask("want", 9, 7);
        x.due("many", 16, 1);
        x.ask("air", 0);
        x.due("best", 0);
        x.due("serve", 0, 16);
        x.ask("air", 124);
        x.due("best", 0);
        x.due("serve", 0, 16);
        x.ask("air", 252);
        x.due(13, "the last of sixteen", "best", 512);
        x.due("serve", 1, 16);
        x.due("many", 15, 1);
        x.due("best", 0);
    }

    /** Eight STATIONS, each lacks and wants the LETTER of its own number. */
    private static Calls ring() {
        Calls x = new Calls().letters(10);
        for (int s = 0; s < 8; s++) {
            x.give(s, ALL - (1 << s));
            x.ask("want", s, s);
        }
        return x;
    }

    /** Part 2: "of MOST LETTERS or fewer": just as many, one too many. */
    private static void bestOfJustMost() {
        Calls x = ring();
        x.due(13, "MOST is 4 at first", "best", 15);
        for (int v = 1; v <= 8; v++) {
            x.ask("most", v);
            x.due(13, "MOST " + v, "best", (1 << v) - 1);
            x.due(13, "MOST " + v + " serves as many", "sum", v, (1 << v) - 1, 1);
        }
        x.ask("most", 9);
        x.due(13, "no more LETTERS than serve", "best", 255);
        x.ask("most", 10);
        x.due("best", 255);
        x.due(12, "sum() knows no MOST", "sum", 8, 255, 1);
        x.ask("most", 1);
        x.due(14, "nor does send()", "send", 8, 255);
    }

    /** 7: MOST 1: a LETTER alone. */
    private static void bestWithMostOne() {
        Calls x = ring();
        x.ask("most", 1);
        for (int l = 0; l < 8; l++) {
            x.due("best", 1 << l);
            x.due("serve", 1, 1);
        }
        x.due("best", 0);
    }

    /** Part 2, 7: MOST 9, 10: all of eight serve, a LETTER that serves nobody has no part in BEST. */
    private static void bestOfEight() {
        Calls x = new Calls().letters(10);
        for (int s = 0; s < 8; s++) {
            x.give(s, ALL - (4 << s));
            x.ask("want", s + 2, s);
        }
        for (int v = 10; v >= 8; v--) {
            x.ask("most", v);
            x.due(13, "MOST " + v, "best", ALL - 3);
        }
        x.ask("most", 7);
        x.due(13, "seven of the eight", "best", 508);
    }

    /** Part 2: "that SERVE the first ENTRY whose STATION is in AIR": the first is not in it, only the last is. */
    private static void bestIsForTheFirstInAir() {
        Calls x = new Calls().letters(10);
        x.ask("want", 9, 0);
        x.ask("want", 8, 1);
        for (int s = 2; s < 8; s++) {
            x.ask("want", 0, s);
        }
        x.due(13, "though another serves six", "best", 512);
        x.ask("air", 254);
        x.due("best", 256);
        x.ask("air", 252);
        x.due("best", 1);
        x.ask("air", 128);
        x.due("best", 1);
        x.due("sum", 1, 1, 1);
    }

    /** Part 2: "the one that SERVES the most ENTRIES": of those not in AIR none counts. */
    private static void bestServesTheMost() {
        Calls x = new Calls().letters(3).give(0, 6);
        x.ask("want", 0, 0);
        for (int s = 1; s < 4; s++) {
            x.give(s, 1);
            x.ask("want", 1, s);
        }
        for (int s = 4; s < 8; s++) {
            x.give(s, 1);
            x.ask("want", 2, s);
        }
        x.due(13, "1 and four", "best", 5);
        x.ask("air", 0b00111111);
        x.due(13, "1 and three, 1 and two", "best", 3);
        x.ask("air", 0b00000001);
        x.due("best", 1);
    }

    /** Part 2: "of several the one with the fewest LETTERS": what more LETTERS serve nobody more. */
    private static void bestOfTheFewest() {
        Calls x = new Calls().letters(10).give(0, 511);
        x.ask("want", 9, 0);
        x.ask("most", 10);
        x.due(13, "one LETTER of ten", "best", 512);
        x.ask("want", 8, 1);
        x.give(1, 512);
        x.due(13, "two LETTERS, not more", "best", 768);
        x.ask("has", 1, 1, 1);
        x.ask("want", 0, 1);
        x.due(13, "two of least number, not three", "best", 513);
    }

    /** Part 2: the fewest LETTERS come ahead of the least number: 19 is less than 24, but has three LETTERS. */
    private static void bestOfTheFewestIsAGreaterNumber() {
        Calls x = new Calls().letters(5).give(0, 0b01011).give(1, 0b10010).give(2, 0b10001);
        x.give(3, 0b10000).give(4, 0b10000);
        x.ask("want", 4, 0);
        x.ask("want", 0, 1);
        x.ask("want", 1, 2);
        x.due(13, "LETTERS 0, 1, 4 serve three", "best", 0b10011);
        x.ask("want", 3, 3);
        x.due(13, "still, for 3 and 4 serve two", "best", 0b10011);
        x.ask("want", 3, 4);
        x.due("sum", 3, 0b10011, 1);
        x.due("sum", 3, 0b11000, 1);
        x.due(13, "3 and 4 serve three, too", "best", 0b11000);
        x.ask("air", 0b11101111);
        x.due(13, "STATION 4 hears nothing", "best", 0b10011);
        x.ask("most", 2);
        x.due(13, "of pairs that serve two the least", "best", 0b10001);
        x.ask("air", 255);
        x.due(13, "the pair that serves three", "best", 0b11000);
    }

    /** Part 2: "of these the least as a number". */
    private static void bestOfTheLeast() {
        Calls x = new Calls().letters(10).give(0, 1022);
        x.ask("want", 0, 0);
        x.give(1, 1);
        for (int l = 9; l >= 1; l--) {
            x.ask("want", l, 1);
            x.due("best", 1 + (1 << l));
        }
        x.ask("most", 10);
        x.due("best", 3);
        x.ask("drop", 1);
        x.due("best", 5);
    }

    /** Part 2: "(Its LETTER alone always is such a SUM)": the STATION HAS nothing else, or all else. */
    private static void bestAloneIsAlwaysThere() {
        for (int l = 0; l < 10; l++) {
            Calls x = new Calls().letters(10);
            x.ask("want", l, 4);
            x.due("best", 1 << l);
            x.give(4, ALL - (1 << l));
            x.ask("most", 10);
            x.due("best", 1 << l);
            x.ask("most", 1);
            x.due("best", 1 << l);
        }
    }

    /** 14: nobody is in AIR, nobody OPENS it: it is sent nevertheless. */
    private static void sendToNobody() {
        Calls x = new Calls().letters(2);
        x.ask("want", 0, 0);
        x.ask("air", 0);
        x.due("send", 0, 1);
        x.due("many", 1, 2);
        x.ask("air", 255);
        x.due(14, "they lack two", "send", 0, 3);
        x.due("many", 2, 2);
        x.due("many", 0, 3);
        x.due("many", 1, 1);
        for (int s = 0; s < 8; s++) {
            x.due("having", 0, s);
        }
        x.due("send", 1, 1);
        x.due(14, "they HAVE it", "send", 0, 1);
        x.due("many", 4, 2);
        x.due("many", 1, 3);
    }

    /** 14: "how many ENTRIES are no more by that": eight, each by a LETTER of its own. */
    private static void sendToAll() {
        Calls x = ring();
        x.due("send", 8, 255);
        x.due("many", 0, 1);
        x.due("many", 8, 3);
        for (int s = 0; s < 8; s++) {
            x.due("having", ALL, s);
        }
        x.due("send", 0, ALL);
    }

    /** Part 2: "(all at once: by what they HAVE ahead of it)": one LETTER each, also without an ENTRY. */
    private static void sendByWhatTheyHaveAhead() {
        Calls x = new Calls().letters(3).give(0, 6).give(1, 5).give(2, 4);
        x.ask("want", 0, 2);
        x.ask("want", 1, 2);
        x.due(14, "two read one each, STATION 2 lacks two", "send", 0, 7);
        x.due("having", 7, 0);
        x.due("having", 7, 1);
        x.due("having", 4, 2);
        x.due("having", 0, 3);
        x.due("many", 2, 1);
        x.due(14, "then one", "send", 1, 5);
        x.due("having", 5, 2);
        x.due(14, "then the other", "send", 1, 7);
        x.due("having", 7, 2);
    }

    /** Part 2: "SENT: how many SUMS were sent since anew(); SERVED: how many ENTRIES are no more by that". */
    private static void sentAndServedSinceAnew() {
        Calls x = ring();
        x.due("serve", 2, 16);
        x.due("many", 2, 2);
        x.due("many", 8, 3);
        x.ask("send", 0);
        x.ask("send", 1024);
        x.due(14, "refused, none is SENT", "many", 2, 2);
        x.ask("want", 0, 0);
        x.ask("drop", 1);
        x.due(3, "drop() serves none", "many", 8, 3);
        x.ask("anew");
        x.due("many", 0, 2);
        x.due("many", 0, 3);
        x.letters(1);
        x.ask("want", 0, 0);
        x.ask("has", 0, 0, 1);
        x.due(4, "has() serves none", "many", 0, 3);
        x.due("send", 0, 1);
        x.due("many", 1, 2);
    }

    /** 15: "n times (0 .. 16) at most": every n, none waits or one. */
    private static void serveNoneToSixteen() {
        for (int n = 0; n <= 16; n++) {
            Calls x = new Calls().letters(1);
            x.due("serve", 0, n);
            x.ask("want", 0, 0);
            x.due("serve", n == 0 ? 0 : 1, n);
            x.due("many", n == 0 ? 0 : 1, 2);
            x.due("many", n == 0 ? 1 : 0, 1);
        }
    }

    /** 15: OUTSIDE; nothing is sent. */
    private static void serveOutside() {
        Calls x = new Calls().letters(1);
        x.ask("want", 0, 0);
        for (int n : new int[] {-1, 17, 18, 255, LOW, HIGH}) {
            x.due("serve", OUTSIDE, n);
        }
        x.due("many", 0, 2);
        x.due("many", 1, 1);
    }

    /** 15: "how many were sent": fewer than are needed, as many, more. */
    private static void serveJustSoMany() {
        for (int n = 0; n <= 16; n++) {
            Calls x = new Calls().letters(10);
            for (int l = 0; l < 10; l++) {
                x.ask("want", 9 - l, 3);
            }
            int sent = Math.min(n, 10);
            x.due("serve", sent, n);
            x.due("many", sent, 2);
            x.due("many", sent, 3);
            x.due("many", 10 - sent, 1);
            x.due("entry", sent == 10 ? UNKNOWN : 9 - sent, 0, 0);
            x.due(15, "the first came first", "having", ALL - (ALL >> sent), 3);
        }
    }

    /** 15: "while there is one": those who are not in AIR wait on. */
    private static void serveStopsAsNoneIsLeft() {
        Calls x = new Calls().letters(10);
        for (int l = 0; l < 5; l++) {
            x.ask("want", l, 0);
            x.ask("want", l + 5, 1);
        }
        x.ask("air", 2);
        x.due("serve", 5, 16);
        x.due("serve", 0, 16);
        x.due("many", 5, 1);
        x.due("having", 0, 0);
        x.due("having", ALL - 31, 1);
        x.ask("air", 255);
        x.due("serve", 4, 4);
        x.due("serve", 1, 4);
        x.due("serve", 0, 4);
        x.due("many", 10, 2);
    }
}
