import java.util.ArrayList;
import java.util.HashMap;
import java.util.HashSet;
import java.util.List;
import java.util.Map;
import java.util.Random;
import java.util.Set;
import java.util.TreeSet;

/** Random runs, each answer against a plain model that counts everything out. The runs are always the same. */
public final class ModelTest {
    private static final int RUNS = 160;
    private static final int TIES_FROM = 1_000_000;
    private static final int UNKNOWN = -1, OUTSIDE = -2, STATE = -3, FULL = -4, NONE = -9;
    private static final String[] WORDS = {"two", "three", "five", "seven", "tw", "sevens"};

    /** What a NODE has: all that can be made of it, numbers and SIGNS in a text of figures. */
    private static final class Space {
        final Map<String, String> signsOf = new HashMap<>();

        Space(int n) {
            signsOf.put("0".repeat(n), "000");
        }
    }

    private static final class Gen {
        int number;
        int n;
        final Space[] spaces = new Space[4];
    }

    private static final class Model {
        final Map<Integer, Integer> bodies = new HashMap<>();
        final List<Set<Integer>> held = new ArrayList<>();
        final List<int[]> queue = new ArrayList<>();
        int air = 255, most = 4, sent, served;
        String tape = "";
        int p = 2, seed = 1, begun;
        final List<Gen> gens = new ArrayList<>();

        Model() {
            for (int s = 0; s < 8; s++) {
                held.add(new TreeSet<>());
            }
        }

        static boolean in(int v, int from, int to) {
            return v >= from && v <= to;
        }

        boolean gives(int s, int l) {
            held.get(s).add(l);
            return queue.removeIf(e -> e[0] == l && e[1] == s);
        }

        Set<Integer> sumOf(int set) {
            Set<Integer> letters = new TreeSet<>();
            for (int l = 0; l < 32; l++) {
                if ((set >>> l & 1) == 1) {
                    letters.add(l);
                }
            }
            return !letters.isEmpty() && bodies.keySet().containsAll(letters) ? letters : null;
        }

        int reading(int s, Set<Integer> letters) {
            Set<Integer> missing = new TreeSet<>(letters);
            missing.removeAll(held.get(s));
            return missing.size() == 1 ? missing.iterator().next() : NONE;
        }

        boolean aired(int s) {
            return (air >> s & 1) == 1;
        }

        boolean serves(Set<Integer> letters, int[] e) {
            return aired(e[1]) && reading(e[1], letters) == e[0];
        }

        int served(Set<Integer> letters) {
            return (int) queue.stream().filter(e -> serves(letters, e)).count();
        }

        int body(Set<Integer> letters) {
            int body = 0;
            for (int l : letters) {
                body ^= bodies.get(l);
            }
            return body;
        }

        int best() {
            int[] first = queue.stream().filter(e -> aired(e[1])).findFirst().orElse(null);
            if (first == null) {
                return 0;
            }
            int best = 0;
            for (int set = 1; set < 1024; set++) {
                Set<Integer> letters = sumOf(set);
                if (letters == null || letters.size() > most || !serves(letters, first)) {
                    continue;
                }
                Set<Integer> old = best == 0 ? null : sumOf(best);
                if (old == null || served(letters) > served(old)
                    || served(letters) == served(old) && letters.size() < old.size()) {
                    best = set;
                }
            }
            return best;
        }

        int send(Set<Integer> letters) {
            int gone = 0;
            int[] read = new int[8];
            for (int s = 0; s < 8; s++) {
                read[s] = aired(s) ? reading(s, letters) : NONE;
            }
            for (int s = 0; s < 8; s++) {
                if (read[s] != NONE && gives(s, read[s])) {
                    gone++;
                }
            }
            sent++;
            served += gone;
            return gone;
        }

        Gen gen(int g) {
            return gens.stream().filter(x -> x.number == g).findFirst().orElse(null);
        }

        String add(String a, int times, String b) {
            StringBuilder sum = new StringBuilder();
            for (int i = 0; i < a.length(); i++) {
                sum.append((a.charAt(i) - '0' + times * (b.charAt(i) - '0')) % p);
            }
            return sum.toString();
        }

        boolean comes(Space space, String numbers, String signs) {
            if (space.signsOf.containsKey(numbers)) {
                return false;
            }
            Map<String, String> more = new HashMap<>();
            space.signsOf.forEach((ns, ss) -> {
                for (int c = 0; c < p; c++) {
                    more.put(add(ns, c, numbers), add(ss, c, signs));
                }
            });
            space.signsOf.putAll(more);
            return true;
        }

        static int lead(String numbers) {
            for (int i = 0; i < numbers.length(); i++) {
                if (numbers.charAt(i) != '0') {
                    return i;
                }
            }
            return -1;
        }

        /** Numbers of the ROWS: of each LEAD the one with a 1 there and 0 at all other LEADS. */
        List<String> rowsOf(Space space) {
            TreeSet<Integer> leads = new TreeSet<>();
            space.signsOf.keySet().forEach(ns -> leads.add(lead(ns)));
            leads.remove(-1);
            List<String> rows = new ArrayList<>();
            for (int at : leads) {
                for (String ns : space.signsOf.keySet()) {
                    boolean fits = lead(ns) == at;
                    for (int other : leads) {
                        fits = fits && ns.charAt(other) == (other == at ? '1' : '0');
                    }
                    if (fits) {
                        rows.add(ns);
                    }
                }
            }
            return rows;
        }

        String mixOf(List<String> rows, int n, int m) {
            String mixed = "0".repeat(n);
            int power = 1;
            for (String row : rows) {
                mixed = add(mixed, m / power % p, row);
                power *= p;
            }
            return mixed;
        }

        boolean carries(Gen gen, int a, int b, int m) {
            String mixed = mixOf(rowsOf(gen.spaces[a]), gen.n, m);
            return comes(gen.spaces[b], mixed, gen.spaces[a].signsOf.get(mixed));
        }

        /** The least m that is new to all of the others told by bits; all m are looked at. */
        int leastNew(Gen gen, int a, int others) {
            List<String> rows = rowsOf(gen.spaces[a]);
            for (int m = 0; m < Math.min(16807, Math.pow(p, gen.n) + 1); m++) {
                String mixed = mixOf(rows, gen.n, m);
                boolean all = true;
                for (int b = 0; b < 4; b++) {
                    all = all && ((others >> b & 1) == 0 || !gen.spaces[b].signsOf.containsKey(mixed));
                }
                if (all) {
                    return m;
                }
            }
            return NONE;
        }

        int forAll(Gen gen, int a) {
            int others = 0;
            for (int b = 0; b < 4; b++) {
                if (b != a && leastNew(gen, a, 1 << b) != NONE) {
                    others |= 1 << b;
                }
            }
            return others == 0 ? NONE : leastNew(gen, a, others);
        }

        String text(Set<Integer> letters) {
            List<String> names = new ArrayList<>();
            letters.forEach(l -> names.add(String.valueOf(l)));
            return String.join("+", names) + " " + body(letters);
        }

        String text(Space space) {
            List<String> rows = new ArrayList<>();
            rowsOf(space).forEach(ns -> rows.add(ns + ":" + space.signsOf.get(ns)));
            return String.join(" ", rows);
        }

        static int sign(String text, int i) {
            return i == -1 ? text.length() : i < text.length() ? text.charAt(i) : NONE;
        }

        int letters(String call, int[] v) {
            switch (call) {
                case "letter": {
                    if (!in(v[0], 0, 9)) return UNKNOWN;
                    if (!in(v[1], 0, 255)) return OUTSIDE;
                    return bodies.put(v[0], v[1]) == null ? 0 : 1;
                }
                case "drop": {
                    if (bodies.remove(v[0]) == null) return UNKNOWN;
                    int were = queue.size();
                    queue.removeIf(e -> e[0] == v[0]);
                    held.forEach(h -> h.remove(v[0]));
                    return were - queue.size();
                }
                case "has": {
                    if (!in(v[0], 0, 7) || !bodies.containsKey(v[1])) return UNKNOWN;
                    if (!in(v[2], 0, 1)) return OUTSIDE;
                    boolean had = held.get(v[0]).contains(v[1]);
                    if (v[2] == 1) gives(v[0], v[1]); else held.get(v[0]).remove(v[1]);
                    return had ? 1 : 0;
                }
                case "want": {
                    if (!in(v[1], 0, 7) || !bodies.containsKey(v[0])) return UNKNOWN;
                    if (held.get(v[1]).contains(v[0])) return STATE;
                    if (queue.stream().anyMatch(e -> e[0] == v[0] && e[1] == v[1])) return STATE;
                    if (queue.size() == 16) return FULL;
                    queue.add(new int[] {v[0], v[1]});
                    return queue.size();
                }
                case "air": {
                    if (!in(v[0], 0, 255)) return OUTSIDE;
                    int was = air;
                    air = v[0];
                    return was;
                }
                case "most": {
                    if (!in(v[0], 1, 10)) return OUTSIDE;
                    int was = most;
                    most = v[0];
                    return was;
                }
                case "anew": {
                    int were = queue.size();
                    bodies.clear();
                    held.forEach(Set::clear);
                    queue.clear();
                    sent = 0;
                    served = 0;
                    return were;
                }
                case "entry": {
                    if (!in(v[0], 0, queue.size() - 1)) return UNKNOWN;
                    return in(v[1], 0, 1) ? queue.get(v[0])[v[1]] : OUTSIDE;
                }
                default: {
                    if (!in(v[0], 0, 7)) return UNKNOWN;
                    int set = 0;
                    for (int l : held.get(v[0])) set += 1 << l;
                    return set;
                }
            }
        }

        int sums(String call, int[] v) {
            switch (call) {
                case "reads": {
                    if (!in(v[0], 0, 7)) return UNKNOWN;
                    return sumOf(v[1]) == null ? OUTSIDE : reading(v[0], sumOf(v[1]));
                }
                case "sum": {
                    Set<Integer> letters = sumOf(v[0]);
                    if (letters == null || !in(v[1], 0, 2)) return OUTSIDE;
                    if (v[1] == 0) return body(letters);
                    if (v[1] == 1) return served(letters);
                    int set = 0;
                    for (int s = 0; s < 8; s++) {
                        if (aired(s) && reading(s, letters) != NONE) set += 1 << s;
                    }
                    return set;
                }
                case "best": return best();
                case "send": return sumOf(v[0]) == null ? OUTSIDE : send(sumOf(v[0]));
                case "serve": {
                    if (!in(v[0], 0, 16)) return OUTSIDE;
                    int times = 0;
                    while (times < v[0] && best() != 0) {
                        send(sumOf(best()));
                        times++;
                    }
                    return times;
                }
                default: {
                    Set<Integer> letters = sumOf(v[0]);
                    return letters == null || !in(v[1], -1, 39) ? OUTSIDE : sign(text(letters), v[1]);
                }
            }
        }

        int field(String call, int[] v) {
            switch (call) {
                case "key": {
                    if (!in(v[0], 0, 127)) return OUTSIDE;
                    if (tape.length() == 12) return FULL;
                    tape += (char) v[0];
                    return tape.length();
                }
                case "wipe": {
                    int had = tape.length();
                    tape = "";
                    return had;
                }
                case "word": {
                    int at = List.of("two", "three", "five", "seven").indexOf(tape);
                    if (at < 0) return UNKNOWN;
                    tape = "";
                    p = new int[] {2, 3, 5, 7}[at];
                    gens.clear();
                    begun = 0;
                    return p;
                }
                case "open": {
                    if (!in(v[0], 1, 5)) return OUTSIDE;
                    if (gens.size() == 3) return FULL;
                    Gen gen = new Gen();
                    gen.number = begun++;
                    gen.n = v[0];
                    for (int node = 0; node < 4; node++) gen.spaces[node] = new Space(gen.n);
                    for (int k = 0; k < gen.n; k++) {
                        String numbers = "0".repeat(k) + "1" + "0".repeat(gen.n - k - 1);
                        StringBuilder signs = new StringBuilder();
                        for (int j = 0; j < 3; j++) signs.append((v[1] >>> 2 * (3 * k + j) & 3) % p);
                        comes(gen.spaces[0], numbers, signs.toString());
                    }
                    gens.add(gen);
                    return gen.number;
                }
                case "sweep": {
                    int were = gens.size();
                    gens.removeIf(gen -> {
                        for (Space space : gen.spaces) {
                            if (rowsOf(space).size() != gen.n) return false;
                        }
                        return true;
                    });
                    return were - gens.size();
                }
                case "opened": return in(v[0], 0, gens.size() - 1) ? gens.get(v[0]).number : UNKNOWN;
                default: {
                    int[] all = {bodies.size(), queue.size(), sent, served, p, begun, gens.size(), tape.length(),
                        seed & 0xFFFF};
                    return in(v[0], 0, 8) ? all[v[0]] : OUTSIDE;
                }
            }
        }

        int nodes(String call, int[] v) {
            Gen gen = gen(v[0]);
            if (gen == null || !in(v[1], 0, 3)) return UNKNOWN;
            Space space = gen.spaces[v[1]];
            List<String> rows = rowsOf(space);
            switch (call) {
                case "rank": return rows.size();
                case "row": {
                    if (!in(v[2], 0, rows.size() - 1)) return UNKNOWN;
                    if (!in(v[3], 0, gen.n + 2)) return OUTSIDE;
                    return (rows.get(v[2]) + space.signsOf.get(rows.get(v[2]))).charAt(v[3]) - '0';
                }
                case "read": {
                    if (!in(v[2], 0, gen.n - 1) || !in(v[3], 0, 2)) return OUTSIDE;
                    String alone = "0".repeat(v[2]) + "1" + "0".repeat(gen.n - v[2] - 1);
                    return space.signsOf.containsKey(alone) ? space.signsOf.get(alone).charAt(v[3]) - '0' : NONE;
                }
                case "forAll": return forAll(gen, v[1]);
                case "rows": return in(v[2], -1, 59) ? sign(text(space), v[2]) : OUTSIDE;
                default: break;
            }
            if (!in(v[2], 0, 3)) return UNKNOWN;
            if (call.equals("mix") && !in(v[3], 0, 16806)) return OUTSIDE;
            if (v[1] == v[2]) return STATE;
            switch (call) {
                case "mix": return carries(gen, v[1], v[2], v[3]) ? 1 : 0;
                case "draw": {
                    seed = 69069 * seed + 12345;
                    int drawn = (seed >>> 16) % 16807;
                    carries(gen, v[1], v[2], drawn);
                    return drawn;
                }
                default: return leastNew(gen, v[1], 1 << v[2]);
            }
        }
    }

    private static int due(Model model, String call, int[] v) {
        switch (call) {
            case "letter": case "drop": case "has": case "want": case "air": case "most": case "anew":
            case "entry": case "having":
                return model.letters(call, v);
            case "reads": case "sum": case "best": case "send": case "serve": case "text":
                return model.sums(call, v);
            case "rank": case "row": case "read": case "mix": case "draw": case "fresh": case "forAll": case "rows":
                return model.nodes(call, v);
            default:
                return model.field(call, v);
        }
    }

    private static int[] args(Random random, Model model, String call) {
        int g = someGeneration(random, model);
        int node = random.nextInt(3) == 0 ? 0 : spread(random, 0, 3);
        int other = random.nextInt(12) == 0 ? spread(random, 0, 3) : (node & 3) + 1 + random.nextInt(3) & 3;
        switch (call) {
            case "letter": return new int[] {spread(random, 0, 9), spread(random, 0, 255)};
            case "drop": return new int[] {spread(random, 0, 9)};
            case "has": return new int[] {spread(random, 0, 7), spread(random, 0, 9), spread(random, 0, 1)};
            case "want": return somePair(random, model);
            case "air": return new int[] {random.nextInt(4) == 0 ? 255 : spread(random, 0, 255)};
            case "most": return new int[] {spread(random, 1, 10)};
            case "entry": return new int[] {spread(random, 0, Math.max(0, model.queue.size() - 1)), spread(random, 0, 1)};
            case "having": return new int[] {spread(random, 0, 7)};
            case "reads": return new int[] {spread(random, 0, 7), someSet(random, model)};
            case "sum": return new int[] {someSet(random, model), spread(random, 0, 2)};
            case "send": return new int[] {someSet(random, model)};
            case "serve": return new int[] {random.nextInt(3) > 0 ? 1 : spread(random, 0, 16)};
            case "key": return new int[] {spread(random, 0, 127)};
            case "open": return new int[] {spread(random, 1, 5), random.nextInt()};
            case "rank": case "forAll": return new int[] {g, node};
            case "row": return new int[] {g, node, spread(random, 0, 3), spread(random, 0, 7)};
            case "read": return new int[] {g, node, spread(random, 0, 4), spread(random, 0, 2)};
            case "mix": return new int[] {g, node, other, someMix(random, model)};
            case "draw": case "fresh": return new int[] {g, node, other};
            case "opened": return new int[] {spread(random, 0, 2)};
            case "text": return new int[] {someSet(random, model), random.nextInt(5) == 0 ? -1 : spread(random, 0, 22)};
            case "rows": return new int[] {g, node, random.nextInt(5) == 0 ? -1 : spread(random, 0, 50)};
            case "many": return new int[] {spread(random, 0, 8)};
            default: return new int[0];
        }
    }

    /** Mostly from .. to, now and then just beside it or far from it. */
    private static int spread(Random random, int from, int to) {
        int kind = random.nextInt(60);
        if (kind == 0) return from - 1;
        if (kind == 1) return to + 1;
        if (kind == 2) return random.nextInt();
        if (kind == 3) return from;
        if (kind == 4) return to;
        return from + random.nextInt(to - from + 1);
    }

    private static int someGeneration(Random random, Model model) {
        boolean open = !model.gens.isEmpty() && random.nextInt(15) > 0;
        return open ? model.gens.get(random.nextInt(model.gens.size())).number : model.begun - random.nextInt(5);
    }

    /** Mostly a LETTER and a STATION that lacks it. */
    private static int[] somePair(Random random, Model model) {
        int[] pair = {spread(random, 0, 9), spread(random, 0, 7)};
        for (int tries = 0; tries < 6; tries++) {
            boolean there = Model.in(pair[1], 0, 7) && model.bodies.containsKey(pair[0]);
            if (there && !model.held.get(pair[1]).contains(pair[0])) {
                break;
            }
            pair[0] = spread(random, 0, 9);
            pair[1] = spread(random, 0, 7);
        }
        return pair;
    }

    /** Often of one ROW or two, so that NODES learn slowly and what they know lies across one another. */
    private static int someMix(Random random, Model model) {
        if (random.nextInt(3) == 0) {
            return spread(random, 0, 16806);
        }
        int m = 0;
        for (int k = random.nextInt(2); k < 2; k++) {
            m += (1 + random.nextInt(model.p - 1)) * (int) Math.pow(model.p, random.nextInt(5));
        }
        return Math.min(m, 16806);
    }

    private static int someSet(Random random, Model model) {
        if (random.nextInt(12) == 0) {
            return spread(random, 0, 1023);
        }
        int set = 0;
        for (int l : model.bodies.keySet()) {
            if (random.nextInt(3) == 0) {
                set |= 1 << l;
            }
        }
        return set;
    }

    private static final String[] RELAY = {"letter", "letter", "has", "has", "has", "has", "want", "want", "want",
        "want", "want", "want", "want", "want", "most", "entry", "having", "reads", "sum", "sum", "best", "best",
        "best", "text", "text", "many"};
    private static final String[] NODES = {"open", "open", "mix", "mix", "mix", "mix", "draw", "rank", "row",
        "row", "read", "read", "fresh", "fresh", "fresh", "forAll", "forAll", "forAll", "sweep", "opened", "rows",
        "rows", "many"};
    private static final String[] SELDOM = {"air", "air", "send", "send", "serve", "serve", "drop", "key", "wipe",
        "word", "sweep"};

    private static void check(int run, StringBuilder log, Calls x, Model model, String call, int... v) {
        log.append(Calls.told(call, v)).append(' ');
        int got = x.ask(call, v);
        int want = due(model, call, v);
        if (got != want) {
            System.out.println("run " + run + ": " + log);
        }
        Due.due(Calls.promiseOf(call), "run " + run + ": " + Calls.told(call, v), got, want);
    }

    /** Calls of one run on a new object, and on the model. */
    private static final class Run {
        final int number;
        final Random random;
        final Calls x = new Calls();
        final Model model = new Model();
        final StringBuilder log = new StringBuilder();

        Run(int number) {
            this.number = number;
            random = new Random(number);
        }

        void call(String call, int... v) {
            if (x.made() < Calls.LIMIT) {
                check(number, log, x, model, call, v);
            }
        }

        void tell(String word) {
            call("wipe");
            for (char sign : word.toCharArray()) {
                call("key", sign);
            }
            call("word");
        }

        /** Much is there and much was overheard, so that long SUMS are worth it. */
        void fill() {
            for (int l = 0; l < 10; l++) {
                call("letter", l, random.nextInt(256));
                for (int s = 0; s < 8; s++) {
                    if (random.nextInt(4) > 0) {
                        call("has", s, l, 1);
                    }
                }
            }
            call("most", 1 + random.nextInt(10));
        }

        void some(String[] from) {
            String call = from[random.nextInt(from.length)];
            call(call, args(random, model, call));
        }
    }

    private static void run(int number) {
        Run run = new Run(number);
        // the first word by turns, so that each FIELD has its share
        run.tell(WORDS[number % 4]);
        int nodes = run.random.nextInt(3);
        boolean full = nodes < 2 && run.random.nextInt(4) > 0;
        if (full) {
            run.fill();
        }
        while (run.x.made() < Calls.LIMIT) {
            int kind = run.random.nextInt(200);
            if (kind == 0) {
                run.tell(WORDS[run.random.nextInt(WORDS.length)]);
            } else if (kind == 1) {
                run.call("anew");
                if (full) {
                    run.fill();
                }
            } else if (kind < 16) {
                run.some(SELDOM);
            } else {
                run.some(run.random.nextInt(2) < nodes ? NODES : RELAY);
            }
        }
    }

    /**
     * A full QUEUE over much that was overheard: in one of some thirty of these states the SUM of the fewest LETTERS
     * isn't the least number among those that serve as many, which the other runs seldom come to.
     */
    private static void ties(int number) {
        Run run = new Run(TIES_FROM + number);
        int letters = 6 + run.random.nextInt(5);
        for (int l = 0; l < letters; l++) {
            run.call("letter", l, l);
            for (int s = 0; s < 8; s++) {
                if (run.random.nextInt(4) > 0) {
                    run.call("has", s, l, 1);
                }
            }
        }
        for (int tries = 0; tries < 150; tries++) {
            run.call("want", run.random.nextInt(letters), run.random.nextInt(8));
        }
        for (int most = 1; most <= 10; most++) {
            run.call("most", most);
            run.call("best");
        }
        for (int k = 0; k < 6; k++) {
            run.call("air", run.random.nextInt(256) | run.random.nextInt(256));
            run.call("best");
            run.call("serve", 1);
        }
    }

    public static void main(String[] args) {
        int runs = args.length > 0 ? Integer.parseInt(args[0]) : RUNS;
        for (int number = 0; number < runs; number++) {
            run(number);
            ties(number);
        }
        Due.end();
    }
}
