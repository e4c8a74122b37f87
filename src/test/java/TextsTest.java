/** Promises 29 to 31: texts, and how many. */
public final class TextsTest {
    public static void main(String[] args) {
        text();
        rows();
        many();
        Due.end();
    }

    private static void dueText(AddedLetters x, int set, String want) {
        Due.due(29, "text(" + set + ", -1)", x.text(set, -1), want.length());
        for (int i = 0; i < 40; i++) {
            Due.due(29, "text(" + set + ", " + i + ")", x.text(set, i), i < want.length() ? want.charAt(i) : -9);
        }
    }

    private static void text() {
        AddedLetters x = new AddedLetters();
        x.letter(0, 0);
        dueText(x, 1, "0 0");
        x.letter(9, 9);
        dueText(x, 512, "9 9");
        dueText(x, 513, "0+9 9");
        x.letter(5, 10);
        dueText(x, 32, "5 10");
        x.letter(5, 99);
        dueText(x, 32, "5 99");
        x.letter(5, 100);
        dueText(x, 32, "5 100");
        x.letter(5, 198);
        dueText(x, 32, "5 198");
        x.letter(5, 205);
        dueText(x, 33, "0+5 205");
        x = new AddedLetters();
        for (int l = 0; l < 10; l++) {
            x.letter(l, l == 9 ? 254 : 1 << l % 8);
        }
        dueText(x, 1023, "0+1+2+3+4+5+6+7+8+9 0");
        x.letter(9, 1);
        dueText(x, 1023, "0+1+2+3+4+5+6+7+8+9 255");
        Due.due(29, "text(1, -2)", x.text(1, -2), -2);
        Due.due(29, "text(1, 40)", x.text(1, 40), -2);
        Due.due(29, "text(0, 0)", x.text(0, 0), -2);
        Due.due(29, "text(1024, -1)", x.text(1024, -1), -2);
        Due.due(29, "text(-1, 0)", x.text(-1, 0), -2);
        x.drop(3);
        Due.due(29, "text(8, -1)", x.text(8, -1), -2);
        Due.due(29, "text(9, 0)", x.text(9, 0), -2);
    }

    private static void dueRows(AddedLetters x, int g, int node, String want) {
        Due.due(30, "rows(" + g + ", " + node + ", -1)", x.rows(g, node, -1), want.length());
        for (int i = 0; i < 60; i++) {
            Due.due(30, "rows(" + g + ", " + node + ", " + i + ")", x.rows(g, node, i),
                i < want.length() ? want.charAt(i) : -9);
        }
    }

    private static void rows() {
        AddedLetters x = new AddedLetters();
        for (char sign : "seven".toCharArray()) {
            x.key(sign);
        }
        x.word();
        Due.due(30, "rows(0, 0, -1)", x.rows(0, 0, -1), -1);
        x.open(1, 0b101101);
        x.open(5, 0b111111_111111_111111_111111_111111);
        dueRows(x, 0, 0, "1:132");
        dueRows(x, 0, 1, "");
        dueRows(x, 1, 0, "10000:333 01000:333 00100:333 00010:333 00001:333");
        x.mix(1, 0, 2, 6 + 7 * 6 + 49 * 6 + 343 * 6 + 2401 * 6);
        x.mix(1, 0, 2, 1);
        dueRows(x, 1, 2, "10000:333 01111:555");
        Due.due(30, "rows(1, 2, -2)", x.rows(1, 2, -2), -2);
        Due.due(30, "rows(1, 2, 60)", x.rows(1, 2, 60), -2);
        Due.due(30, "rows(1, 4, 60): UNKNOWN first", x.rows(1, 4, 60), -1);
        Due.due(30, "rows(1, -1, 0)", x.rows(1, -1, 0), -1);
        Due.due(30, "rows(2, 0, 0)", x.rows(2, 0, 0), -1);
        Due.due(30, "rows(-1, 0, 0)", x.rows(-1, 0, 0), -1);
    }

    private static void many() {
        AddedLetters x = new AddedLetters();
        x.letter(2, 2);
        x.letter(3, 3);
        x.letter(9, 4);
        x.want(2, 1);
        x.want(3, 1);
        x.want(3, 2);
        x.want(9, 3);
        x.send(8);
        x.send(12);
        for (char sign : "three".toCharArray()) {
            x.key(sign);
        }
        x.word();
        x.key(1);
        x.key(2);
        x.open(1, 0);
        x.open(1, 0);
        for (int node = 1; node < 4; node++) {
            x.mix(0, 0, node, 1);
        }
        x.sweep();
        x.draw(1, 0, 1);
        int[] want = {3, 1, 2, 3, 3, 2, 1, 2, 69069 + 12345 & 0xFFFF};
        for (int what = 0; what < want.length; what++) {
            Due.due(31, "many(" + what + ")", x.many(what), want[what]);
        }
        Due.due(31, "many(9)", x.many(9), -2);
        Due.due(31, "many(-1)", x.many(-1), -2);
        Due.due(31, "many(least int)", x.many(Integer.MIN_VALUE), -2);
    }
}
