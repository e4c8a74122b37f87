/** One object, called by the names of its calls; counts them, since nothing is promised behind the 512th. */
final class Calls {
    static final int LIMIT = 512;
    static final String[] NAMES = {"letter", "drop", "has", "want", "air", "most", "anew", "entry", "having", "reads",
        "sum", "best", "send", "serve", "key", "wipe", "word", "open", "rank", "row", "read", "mix", "draw", "fresh",
        "forAll", "sweep", "opened", "text", "rows", "many"};

    private final AddedLetters x = new AddedLetters();
    private int made;

    /** The promise that tells of a call: the first call's is 2. */
    static int promiseOf(String call) {
        return java.util.Arrays.asList(NAMES).indexOf(call) + 2;
    }

    static String told(String call, int... v) {
        String inside = java.util.Arrays.toString(v);
        return call + "(" + inside.substring(1, inside.length() - 1) + ")";
    }

    int made() {
        return made;
    }

    int ask(String call, int... v) {
        made++;
        if (made > LIMIT) {
            throw new IllegalStateException("the test asks more than " + LIMIT + " calls of one object");
        }
        switch (call) {
            case "letter": return x.letter(v[0], v[1]);
            case "drop": return x.drop(v[0]);
            case "has": return x.has(v[0], v[1], v[2]);
            case "want": return x.want(v[0], v[1]);
            case "air": return x.air(v[0]);
            case "most": return x.most(v[0]);
            case "anew": return x.anew();
            case "entry": return x.entry(v[0], v[1]);
            case "having": return x.having(v[0]);
            case "reads": return x.reads(v[0], v[1]);
            case "sum": return x.sum(v[0], v[1]);
            case "best": return x.best();
            case "send": return x.send(v[0]);
            case "serve": return x.serve(v[0]);
            case "key": return x.key(v[0]);
            case "wipe": return x.wipe();
            case "word": return x.word();
            case "open": return x.open(v[0], v[1]);
            case "rank": return x.rank(v[0], v[1]);
            case "row": return x.row(v[0], v[1], v[2], v[3]);
            case "read": return x.read(v[0], v[1], v[2], v[3]);
            case "mix": return x.mix(v[0], v[1], v[2], v[3]);
            case "draw": return x.draw(v[0], v[1], v[2]);
            case "fresh": return x.fresh(v[0], v[1], v[2]);
            case "forAll": return x.forAll(v[0], v[1]);
            case "sweep": return x.sweep();
            case "opened": return x.opened(v[0]);
            case "text": return x.text(v[0], v[1]);
            case "rows": return x.rows(v[0], v[1], v[2]);
            case "many": return x.many(v[0]);
            default: throw new IllegalArgumentException(call);
        }
    }

    /** A call whose answer is due. */
    void due(String call, int want, int... v) {
        due(promiseOf(call), "", call, want, v);
    }

    void due(int promise, String why, String call, int want, int... v) {
        String said = why.isEmpty() ? told(call, v) : told(call, v) + ": " + why;
        Due.due(promise, said, ask(call, v), want);
    }

    void keys(String text) {
        for (char sign : text.toCharArray()) {
            ask("key", sign);
        }
    }

    /** P by its word. */
    Calls field(String name) {
        keys(name);
        ask("word");
        return this;
    }

    /** LETTERS 0 .. n - 1, each with BODY 17 times its number. */
    Calls letters(int n) {
        for (int l = 0; l < n; l++) {
            ask("letter", l, 17 * l);
        }
        return this;
    }

    /** A STATION HAS all LETTERS of a set. */
    Calls give(int s, int set) {
        for (int l = 0; l < 10; l++) {
            if ((set >> l & 1) == 1) {
                ask("has", s, l, 1);
            }
        }
        return this;
    }

    String rowsOf(int g, int node) {
        StringBuilder text = new StringBuilder();
        int length = ask("rows", g, node, -1);
        for (int i = 0; i < length; i++) {
            text.append((char) ask("rows", g, node, i));
        }
        return text.toString();
    }

    void dueRows(int promise, int g, int node, String want) {
        String got = rowsOf(g, node);
        Due.due(promise, "ROWS of NODE " + node + " are '" + got + "', due is '" + want + "'",
            got.equals(want) ? 1 : 0, 1);
    }
}
