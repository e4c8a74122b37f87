/** Relays that add letters: sums by what stations overheard, and generations mixed by a small field. */
public final class AddedLetters {
    public static final int UNKNOWN = -1, OUTSIDE = -2, STATE = -3, FULL = -4, NONE = -9;

    private static final int STATIONS = 8, LETTERS = 10, ENTRIES = 16, CODES = 12;
    private static final int ALL_STATIONS = 255, ALL_LETTERS = 1023, GREATEST_BODY = 255, GREATEST_CODE = 127;
    private static final int MOST_SERVES = 16;
    private static final int GENERATIONS = 3, NODES = 4, PLACES = 5, SIGNS = 3, WIDTH = PLACES + SIGNS;
    private static final int MIXES = 16807;
    private static final int PAPER = 60, GREATEST_TEXT_SIGN = 39, GREATEST_ROWS_SIGN = 59;
    private static final int PLUS = 43, BLANK = 32, COLON = 58, FIGURE_0 = 48;

    private final Relay relay;
    private final Tape tape;
    private final Field field;
    private final Mixing mixing;
    private final Paper paper;

    public AddedLetters() {
        relay = new Relay();
        tape = new Tape();
        field = new Field();
        mixing = new Mixing(field);
        paper = new Paper();
    }

    // ---- 1 letters, stations

    public int letter(int l, int body) {
        if (l < 0 || l >= LETTERS) {
            return UNKNOWN;
        }
        if (body < 0 || body > GREATEST_BODY) {
            return OUTSIDE;
        }
        return relay.putLetter(l, body) ? 1 : 0;
    }

    public int drop(int l) {
        return relay.isThere(l) ? relay.takeLetter(l) : UNKNOWN;
    }

    public int has(int s, int l, int v) {
        if (!isStation(s) || !relay.isThere(l)) {
            return UNKNOWN;
        }
        if (v != 0 && v != 1) {
            return OUTSIDE;
        }
        boolean had = relay.holds(s, l);
        if (v == 1) {
            relay.give(s, l);
        } else {
            relay.takeFrom(s, l);
        }
        return had ? 1 : 0;
    }

    public int want(int l, int s) {
        if (!isStation(s) || !relay.isThere(l)) {
            return UNKNOWN;
        }
        if (relay.holds(s, l) || relay.queue.indexOf(l, s) >= 0) {
            return STATE;
        }
        return relay.queue.add(l, s) ? relay.queue.size : FULL;
    }

    public int air(int set) {
        if (set < 0 || set > ALL_STATIONS) {
            return OUTSIDE;
        }
        int was = relay.onAir;
        relay.onAir = set;
        return was;
    }

    public int most(int v) {
        if (v < 1 || v > LETTERS) {
            return OUTSIDE;
        }
        int was = relay.limit;
        relay.limit = v;
        return was;
    }

    public int anew() {
        int were = relay.queue.size;
        relay.clear();
        return were;
    }

    public int entry(int k, int what) {
        if (k < 0 || k >= relay.queue.size) {
            return UNKNOWN;
        }
        if (what != 0 && what != 1) {
            return OUTSIDE;
        }
        return what == 0 ? relay.queue.letters[k] : relay.queue.stations[k];
    }

    public int having(int s) {
        return isStation(s) ? relay.held[s] : UNKNOWN;
    }

    // ---- 2 sums

    public int reads(int s, int set) {
        if (!isStation(s)) {
            return UNKNOWN;
        }
        return relay.isSum(set) ? relay.readBy(s, set) : OUTSIDE;
    }

    public int sum(int set, int what) {
        if (!relay.isSum(set)) {
            return OUTSIDE;
        }
        switch (what) {
            case 0: return relay.bodyOf(set);
            case 1: return relay.countServed(set);
            case 2: return relay.openers(set);
            default: return OUTSIDE;
        }
    }

    public int best() {
        return relay.findBest();
    }

    public int send(int set) {
        return relay.isSum(set) ? relay.deliver(set) : OUTSIDE;
    }

    public int serve(int n) {
        if (n < 0 || n > MOST_SERVES) {
            return OUTSIDE;
        }
        for (int times = 0; times < n; times++) {
            int set = relay.findBest();
            if (set == 0) {
                return times;
            }
            relay.deliver(set);
        }
        return n;
    }

    // ---- 3 generations

    public int key(int code) {
        if (code < 0 || code > GREATEST_CODE) {
            return OUTSIDE;
        }
        return tape.add(code) ? tape.size : FULL;
    }

    public int wipe() {
        int had = tape.size;
        tape.size = 0;
        return had;
    }

    public int word() {
        int told = tape.toldNumber();
        if (told == 0) {
            return UNKNOWN;
        }
        tape.size = 0;
        field.p = told;
        mixing.forget();
        return told;
    }

    public int open(int n, int x) {
        if (n < 1 || n > PLACES) {
            return OUTSIDE;
        }
        return mixing.begin(n, x);
    }

    public int rank(int g, int node) {
        Node at = mixing.nodeOf(g, node);
        return at == null ? UNKNOWN : at.height();
    }

    public int row(int g, int node, int k, int i) {
        Generation generation = mixing.find(g);
        Node at = mixing.nodeOf(g, node);
        if (generation == null || at == null) {
            return UNKNOWN;
        }
        int place = at.placeOf(k);
        if (place < 0) {
            return UNKNOWN;
        }
        if (i < 0 || i >= generation.n + SIGNS) {
            return OUTSIDE;
        }
        return at.cell(place, i < generation.n ? i : PLACES + i - generation.n);
    }

    public int read(int g, int node, int k, int j) {
        Generation generation = mixing.find(g);
        Node at = mixing.nodeOf(g, node);
        if (generation == null || at == null) {
            return UNKNOWN;
        }
        if (k < 0 || k >= generation.n || j < 0 || j >= SIGNS) {
            return OUTSIDE;
        }
        return at.knows(k) ? at.cell(k, PLACES + j) : NONE;
    }

    public int mix(int g, int a, int b, int m) {
        Node from = mixing.nodeOf(g, a);
        Node to = mixing.nodeOf(g, b);
        if (from == null || to == null) {
            return UNKNOWN;
        }
        if (m < 0 || m >= MIXES) {
            return OUTSIDE;
        }
        if (a == b) {
            return STATE;
        }
        return mixing.carry(from, to, m) ? 1 : 0;
    }

    public int draw(int g, int a, int b) {
        Node from = mixing.nodeOf(g, a);
        Node to = mixing.nodeOf(g, b);
        if (from == null || to == null) {
            return UNKNOWN;
        }
        if (a == b) {
            return STATE;
        }
        int drawn = field.nextDrawn();
        mixing.carry(from, to, drawn);
        return drawn;
    }

    public int fresh(int g, int a, int b) {
        Node from = mixing.nodeOf(g, a);
        Node to = mixing.nodeOf(g, b);
        if (from == null || to == null) {
            return UNKNOWN;
        }
        return a == b ? STATE : mixing.leastNew(from, to);
    }

    public int forAll(int g, int a) {
        Generation generation = mixing.find(g);
        if (generation == null || a < 0 || a >= NODES) {
            return UNKNOWN;
        }
        return mixing.leastNewForAll(generation, a);
    }

    public int sweep() {
        return mixing.takeOutDone();
    }

    public int opened(int k) {
        return k < 0 || k >= mixing.open ? UNKNOWN : mixing.slots[k].number;
    }

    // ---- 4 texts

    public int text(int set, int i) {
        if (!relay.isSum(set) || i < -1 || i > GREATEST_TEXT_SIGN) {
            return OUTSIDE;
        }
        paper.writeSum(set, relay.bodyOf(set));
        return paper.answer(i);
    }

    public int rows(int g, int node, int i) {
        Generation generation = mixing.find(g);
        Node at = mixing.nodeOf(g, node);
        if (generation == null || at == null) {
            return UNKNOWN;
        }
        if (i < -1 || i > GREATEST_ROWS_SIGN) {
            return OUTSIDE;
        }
        paper.writeRows(at, generation.n);
        return paper.answer(i);
    }

    public int many(int what) {
        switch (what) {
            case 0: return Integer.bitCount(relay.there);
            case 1: return relay.queue.size;
            case 2: return relay.sent;
            case 3: return relay.served;
            case 4: return field.p;
            case 5: return mixing.begun;
            case 6: return mixing.open;
            case 7: return tape.size;
            case 8: return field.seed & 0xFFFF;
            default: return OUTSIDE;
        }
    }

    private static boolean isStation(int s) {
        return s >= 0 && s < STATIONS;
    }

    /** The ENTRIES, in the order in which they came. */
    private static final class Queue {
        private final int[] letters = new int[ENTRIES];
        private final int[] stations = new int[ENTRIES];
        private int size;

        private int indexOf(int l, int s) {
            for (int i = 0; i < size; i++) {
                if (letters[i] == l && stations[i] == s) {
                    return i;
                }
            }
            return -1;
        }

        private boolean add(int l, int s) {
            if (size >= ENTRIES) {
                return false;
            }
            letters[size] = l;
            stations[size] = s;
            size++;
            return true;
        }

        private boolean removePair(int l, int s) {
            int at = indexOf(l, s);
            if (at < 0) {
                return false;
            }
            size--;
            for (int i = at; i < size; i++) {
                letters[i] = letters[i + 1];
                stations[i] = stations[i + 1];
            }
            return true;
        }

        private int removeLetter(int l) {
            int kept = 0;
            for (int i = 0; i < size; i++) {
                if (letters[i] != l) {
                    letters[kept] = letters[i];
                    stations[kept] = stations[i];
                    kept++;
                }
            }
            int gone = size - kept;
            size = kept;
            return gone;
        }
    }

    /** LETTERS, what STATIONS HAVE of them, and the SUMS that are sent. Sets are bits. */
    private static final class Relay {
        private final int[] bodies = new int[LETTERS];
        private final int[] held = new int[STATIONS];
        private final Queue queue = new Queue();
        private int there;
        private int onAir = ALL_STATIONS;
        private int limit = 4;
        private int sent;
        private int served;

        private boolean isThere(int l) {
            return l >= 0 && l < LETTERS && (there >> l & 1) == 1;
        }

        private boolean putLetter(int l, int body) {
            boolean was = isThere(l);
            there |= 1 << l;
            bodies[l] = body;
            return was;
        }

        private int takeLetter(int l) {
            there &= ~(1 << l);
            for (int s = 0; s < STATIONS; s++) {
                takeFrom(s, l);
            }
            return queue.removeLetter(l);
        }

        private boolean holds(int s, int l) {
            return (held[s] >> l & 1) == 1;
        }

        /** Whether an ENTRY is no more by that. */
        private boolean give(int s, int l) {
            held[s] |= 1 << l;
            return queue.removePair(l, s);
        }

        private void takeFrom(int s, int l) {
            held[s] &= ~(1 << l);
        }

        private void clear() {
            there = 0;
            for (int s = 0; s < STATIONS; s++) {
                held[s] = 0;
            }
            queue.size = 0;
            sent = 0;
            served = 0;
        }

        private boolean isSum(int set) {
            return set > 0 && (set & ~there) == 0;
        }

        private boolean isOnAir(int s) {
            return (onAir >> s & 1) == 1;
        }

        private int bodyOf(int set) {
            int body = 0;
            for (int l = 0; l < LETTERS; l++) {
                if ((set >> l & 1) == 1) {
                    body ^= bodies[l];
                }
            }
            return body;
        }

        private int readBy(int s, int set) {
            int missing = set & ~held[s];
            // below a single bit there are as many bits as its number says
            return Integer.bitCount(missing) == 1 ? Integer.bitCount(missing - 1) : NONE;
        }

        private int openers(int set) {
            int stations = 0;
            for (int s = 0; s < STATIONS; s++) {
                if (isOnAir(s) && readBy(s, set) != NONE) {
                    stations |= 1 << s;
                }
            }
            return stations;
        }

        private int countServed(int set) {
            int count = 0;
            for (int i = 0; i < queue.size; i++) {
                int s = queue.stations[i];
                if (isOnAir(s) && readBy(s, set) == queue.letters[i]) {
                    count++;
                }
            }
            return count;
        }

        private int firstOnAir() {
            for (int i = 0; i < queue.size; i++) {
                if (isOnAir(queue.stations[i])) {
                    return i;
                }
            }
            return -1;
        }

        private int findBest() {
            int first = firstOnAir();
            if (first < 0) {
                return 0;
            }
            int itsLetter = 1 << queue.letters[first];
            int itsHeld = held[queue.stations[first]];
            int found = 0;
            int foundServes = 0;
            // upwards, so that of sets that are equally good the least stays
            for (int set = 1; set <= ALL_LETTERS; set++) {
                // what is held is there, so a set that passes this is a SUM
                if ((set & ~itsHeld) == itsLetter && Integer.bitCount(set) <= limit) {
                    int serves = countServed(set);
                    boolean fewer = Integer.bitCount(set) < Integer.bitCount(found);
                    if (serves > foundServes || serves == foundServes && fewer) {
                        found = set;
                        foundServes = serves;
                    }
                }
            }
            return found;
        }

        private int deliver(int set) {
            int gone = 0;
            for (int s = 0; s < STATIONS; s++) {
                int l = readBy(s, set);
                if (isOnAir(s) && l != NONE && give(s, l)) {
                    gone++;
                }
            }
            sent++;
            served += gone;
            return gone;
        }
    }

    /** The TAPE with the codes that were keyed in. */
    private static final class Tape {
        private final int[] codes = new int[CODES];
        private int size;

        private boolean add(int code) {
            if (size >= CODES) {
                return false;
            }
            codes[size] = code;
            size++;
            return true;
        }

        private boolean spells(String name) {
            if (name.length() != size) {
                return false;
            }
            for (int i = 0; i < size; i++) {
                if (name.charAt(i) != codes[i]) {
                    return false;
                }
            }
            return true;
        }

        /** 0: the TAPE has none of the four words. */
        private int toldNumber() {
            if (spells("two")) {
                return 2;
            }
            if (spells("three")) {
                return 3;
            }
            if (spells("five")) {
                return 5;
            }
            return spells("seven") ? 7 : 0;
        }
    }

    /** The FIELD of P numbers, and the SEED. */
    private static final class Field {
        private int p = 2;
        private int seed = 1;

        private int left(int v) {
            return p < 2 ? 0 : Math.floorMod(v, p);
        }

        private int cut(int v) {
            return p < 2 ? 0 : v / p;
        }

        private int inverse(int v) {
            for (int c = 1; c < p; c++) {
                if (left(c * v) == 1) {
                    return c;
                }
            }
            return 0;
        }

        private int nextDrawn() {
            seed = 69069 * seed + 12345;
            return (seed >>> 16) % MIXES;
        }
    }

    /**
     * The ROWS of a NODE in the LEAST FORM, each kept at the place of its LEAD: numbers first
     * (behind the n-th they are 0), then the SIGNS from column PLACES on.
     */
    private static final class Node {
        private final int[][] cells = new int[PLACES][WIDTH];
        private final boolean[] led = new boolean[PLACES];

        private void clear() {
            for (int place = 0; place < PLACES; place++) {
                led[place] = false;
            }
        }

        private int height() {
            int count = 0;
            for (int place = 0; place < PLACES; place++) {
                if (led[place]) {
                    count++;
                }
            }
            return count;
        }

        /** Where the LEAD of ROW k is; -1: there is no such ROW. */
        private int placeOf(int k) {
            int ahead = 0;
            for (int place = 0; place < PLACES; place++) {
                if (led[place]) {
                    if (ahead == k) {
                        return place;
                    }
                    ahead++;
                }
            }
            return -1;
        }

        private int cell(int place, int column) {
            boolean inside = place >= 0 && place < PLACES && column >= 0 && column < WIDTH;
            return inside ? cells[place][column] : 0;
        }

        /** Whether LETTER k is READ: by the LEAST FORM only the ROW with its LEAD there can be the one. */
        private boolean knows(int k) {
            if (k < 0 || k >= PLACES || !led[k]) {
                return false;
            }
            for (int column = k + 1; column < PLACES; column++) {
                if (cells[k][column] != 0) {
                    return false;
                }
            }
            return true;
        }

        private void mixInto(int[] mixed, Field field, int m) {
            for (int column = 0; column < WIDTH; column++) {
                mixed[column] = 0;
            }
            int rest = m;
            for (int place = 0; place < PLACES; place++) {
                if (led[place]) {
                    addTimes(mixed, field, field.left(rest), cells[place]);
                    rest = field.cut(rest);
                }
            }
        }

        /** One column of what is left of a ROW once its numbers are 0 at all LEADS here. */
        private int leftover(int[] row, Field field, int column) {
            int v = row[column];
            for (int place = 0; place < PLACES; place++) {
                if (led[place]) {
                    v -= row[place] * cells[place][column];
                }
            }
            return field.left(v);
        }

        /** The place of the LEAD that a ROW would bring; -1: it would bring nothing new. */
        private int newLead(int[] row, Field field) {
            for (int place = 0; place < PLACES; place++) {
                if (leftover(row, field, place) != 0) {
                    return place;
                }
            }
            return -1;
        }

        private boolean take(int[] row, Field field) {
            int lead = newLead(row, field);
            if (lead < 0) {
                return false;
            }
            int scale = field.inverse(leftover(row, field, lead));
            for (int column = 0; column < WIDTH; column++) {
                cells[lead][column] = field.left(scale * leftover(row, field, column));
            }
            for (int place = 0; place < PLACES; place++) {
                if (led[place]) {
                    addTimes(cells[place], field, -cells[place][lead], cells[lead]);
                }
            }
            led[lead] = true;
            return true;
        }

        private static void addTimes(int[] to, Field field, int times, int[] row) {
            for (int column = 0; column < WIDTH; column++) {
                to[column] = field.left(to[column] + times * row[column]);
            }
        }
    }

    /** A GENERATION of n LETTERS with what the four NODES have of it. */
    private static final class Generation {
        private final Node[] nodes = new Node[NODES];
        private int number;
        private int n;

        private Generation() {
            for (int node = 0; node < NODES; node++) {
                nodes[node] = new Node();
            }
        }

        private void renew(int itsNumber, int itsLetters) {
            number = itsNumber;
            n = itsLetters;
            for (int node = 0; node < NODES; node++) {
                nodes[node].clear();
            }
        }

        private boolean isDone() {
            for (int node = 0; node < NODES; node++) {
                if (nodes[node].height() < n) {
                    return false;
                }
            }
            return true;
        }
    }

    /** The open GENERATIONS, the oldest first; slots behind them wait to be used again. */
    private static final class Mixing {
        private final Generation[] slots = new Generation[GENERATIONS];
        private final Field field;
        private final int[] mixed = new int[WIDTH];
        private final boolean[] raisable = new boolean[NODES];
        private int open;
        private int begun;

        private Mixing(Field itsField) {
            field = itsField;
            for (int i = 0; i < GENERATIONS; i++) {
                slots[i] = new Generation();
            }
        }

        private void forget() {
            open = 0;
            begun = 0;
        }

        private Generation find(int g) {
            for (int i = 0; i < open; i++) {
                if (slots[i].number == g) {
                    return slots[i];
                }
            }
            return null;
        }

        private Node nodeOf(int g, int node) {
            Generation generation = find(g);
            return generation == null || node < 0 || node >= NODES ? null : generation.nodes[node];
        }

        private int begin(int n, int x) {
            if (open >= GENERATIONS) {
                return FULL;
            }
            Generation generation = slots[open];
            generation.renew(begun, n);
            for (int k = 0; k < n; k++) {
                writeLetter(k, x);
                generation.nodes[0].take(mixed, field);
            }
            open++;
            begun++;
            return generation.number;
        }

        private void writeLetter(int k, int x) {
            for (int column = 0; column < PLACES; column++) {
                mixed[column] = column == k ? 1 : 0;
            }
            for (int j = 0; j < SIGNS; j++) {
                mixed[PLACES + j] = field.left(x >>> 2 * (3 * k + j) & 3);
            }
        }

        private boolean carry(Node from, Node to, int m) {
            from.mixInto(mixed, field, m);
            return to.take(mixed, field);
        }

        /**
         * If the first i ROWS bring nothing new, no MIX of them does, and these are all m below P to
         * the i: so the least m takes one ROW alone, once.
         */
        private int leastNew(Node from, Node to) {
            int m = 1;
            for (int place = 0; place < PLACES; place++) {
                if (from.led[place]) {
                    if (to.newLead(from.cells[place], field) >= 0) {
                        return m;
                    }
                    m *= field.p;
                }
            }
            return NONE;
        }

        private int leastNewForAll(Generation generation, int a) {
            Node from = generation.nodes[a];
            int least = NONE;
            for (int b = 0; b < NODES; b++) {
                int itsLeast = b == a ? NONE : leastNew(from, generation.nodes[b]);
                raisable[b] = itsLeast != NONE;
                least = Math.max(least, itsLeast);
            }
            if (least == NONE) {
                return NONE;
            }
            // below the greatest of their least m one of them would not rise; from P to the RANK on
            // the same MIXES come again
            int end = countMixes(from.height());
            for (int m = least; m < end; m++) {
                from.mixInto(mixed, field, m);
                if (raisesAll(generation)) {
                    return m;
                }
            }
            return NONE;
        }

        private int countMixes(int height) {
            int count = 1;
            for (int i = 0; i < height && i < PLACES; i++) {
                count *= field.p;
            }
            return count;
        }

        private boolean raisesAll(Generation generation) {
            for (int b = 0; b < NODES; b++) {
                if (raisable[b] && generation.nodes[b].newLead(mixed, field) < 0) {
                    return false;
                }
            }
            return true;
        }

        private int takeOutDone() {
            int kept = 0;
            for (int i = 0; i < open; i++) {
                if (!slots[i].isDone()) {
                    Generation stays = slots[i];
                    slots[i] = slots[kept];
                    slots[kept] = stays;
                    kept++;
                }
            }
            int gone = open - kept;
            open = kept;
            return gone;
        }
    }

    /** A text that is written anew for each question. */
    private static final class Paper {
        private final int[] codes = new int[PAPER];
        private int size;

        private void put(int code) {
            if (size < PAPER) {
                codes[size] = code;
                size++;
            }
        }

        private void putFigure(int figure) {
            put(FIGURE_0 + figure);
        }

        private void putBody(int body) {
            if (body >= 100) {
                putFigure(body / 100);
            }
            if (body >= 10) {
                putFigure(body / 10 % 10);
            }
            putFigure(body % 10);
        }

        private void writeSum(int set, int body) {
            size = 0;
            for (int l = 0; l < LETTERS; l++) {
                if ((set >> l & 1) == 1) {
                    if (size > 0) {
                        put(PLUS);
                    }
                    putFigure(l);
                }
            }
            put(BLANK);
            putBody(body);
        }

        private void writeRows(Node node, int n) {
            size = 0;
            for (int place = 0; place < PLACES; place++) {
                if (node.led[place]) {
                    if (size > 0) {
                        put(BLANK);
                    }
                    writeRow(node, place, n);
                }
            }
        }

        private void writeRow(Node node, int place, int n) {
            for (int i = 0; i < n; i++) {
                putFigure(node.cell(place, i));
            }
            put(COLON);
            for (int j = 0; j < SIGNS; j++) {
                putFigure(node.cell(place, PLACES + j));
            }
        }

        private int answer(int i) {
            if (i < 0) {
                return size;
            }
            return i < size ? codes[i] : NONE;
        }
    }
}
