import java.util.ArrayList;
import java.util.Arrays;
import java.util.List;

/**
 * Terms, REFUSALS: "of a call's line the first that fits is answered, in the order told there: UNKNOWN, OUTSIDE,
 * STATE, FULL; they change nothing". Every call that can be refused, with all mixes of chosen right and wrong
 * arguments, on a new object, in a state where all is half full, and in one where all is full.
 */
public final class RefusalsTest {
    private static final int UNKNOWN = -1, OUTSIDE = -2, STATE = -3, FULL = -4;
    private static final int LOW = Integer.MIN_VALUE, HIGH = Integer.MAX_VALUE;

    /** An argument: values that are right, and values that are refused, and as what. */
    private record Arg(int[] right, int refusal, int[] wrong) { }

    private interface State {
        Calls make();
    }

    public static void main(String[] args) {
        Due.due(18, "the TAPE of the half full state ends as a word", seenOfRelay(makeHalf()).contains(7) ? 1 : 0, 1);
        newObject();
        half();
        full();
        states();
        Due.end();
    }

    private static int[] of(int... v) {
        return v;
    }

    private static Arg unknown(int[] right, int... wrong) {
        return new Arg(right, UNKNOWN, wrong);
    }

    private static Arg outside(int[] right, int... wrong) {
        return new Arg(right, OUTSIDE, wrong);
    }

    // ---- the states

    private static Calls makeHalf() {
        Calls x = new Calls().field("five");
        for (int l = 0; l < 10; l += 3) {
            x.ask("letter", l, 100 + l);
        }
        x.give(0, 0b1001).give(1, 0b1000000001).give(7, 0b1001001001);
        x.ask("want", 6, 0);
        x.ask("want", 3, 1);
        x.ask("want", 0, 4);
        x.ask("send", 64);
        x.ask("want", 9, 6);
        x.ask("air", 0b10010111);
        x.ask("most", 3);
        x.keys("seve");
        x.ask("open", 1, 9);
        x.ask("open", 3, 0b011011_100100_111001);
        for (int node = 1; node < 4; node++) {
            x.ask("mix", 0, 0, node, 2);
        }
        x.ask("sweep");
        x.ask("mix", 1, 0, 1, 3 + 5 + 50);
        x.ask("mix", 1, 0, 2, 10);
        x.ask("draw", 1, 0, 2);
        return x;
    }

    private static Calls makeFull() {
        Calls x = new Calls().field("three").letters(10);
        x.give(7, 0b1111111111).give(0, 0b1111111100);
        for (int k = 0; k < 16; k++) {
            x.ask("want", k % 8 == 7 ? 2 + k / 8 : k / 8, k % 8 == 7 ? 6 : k % 8);
        }
        x.keys("threethreexx");
        x.ask("open", 5, 0x1B1B1B1B);
        x.ask("open", 2, -1);
        x.ask("open", 1, 6);
        for (int m = 1; m < 243; m *= 3) {
            x.ask("mix", 0, 0, 1, m);
        }
        x.ask("mix", 0, 0, 2, 5 + 27);
        x.ask("draw", 1, 0, 3);
        return x;
    }

    // ---- what can be seen of an object: it is asked in two halves, so that none is asked more than 512 calls

    private static List<Integer> seenOfRelay(Calls x) {
        List<Integer> seen = new ArrayList<>();
        for (int what = 0; what < 9; what++) {
            seen.add(x.ask("many", what));
        }
        for (int k = 0; k < 16; k++) {
            seen.add(x.ask("entry", k, 0));
            seen.add(x.ask("entry", k, 1));
        }
        for (int s = 0; s < 8; s++) {
            seen.add(x.ask("having", s));
        }
        for (int l = 0; l < 10; l++) {
            seen.add(x.ask("sum", 1 << l, 0));
        }
        seen.add(x.ask("air", 255));
        seen.add(x.ask("most", 4));
        // what the TAPE has shows by the word that it makes with one code more
        seen.add(x.ask("key", 'n'));
        seen.add(x.ask("word"));
        return seen;
    }

    private static List<Integer> seenOfGenerations(Calls x) {
        List<Integer> seen = new ArrayList<>();
        for (int k = 0; k < 3; k++) {
            int g = x.ask("opened", k);
            seen.add(g);
            for (int node = 0; node < 4; node++) {
                int rank = x.ask("rank", g, node);
                seen.add(rank);
                for (int at = 0; at < rank; at++) {
                    for (int i = 0; i < x.ask("rank", g, 0) + 3; i++) {
                        seen.add(x.ask("row", g, node, at, i));
                    }
                }
            }
        }
        if (!seen.contains(UNKNOWN)) {
            seen.add(x.ask("draw", x.ask("opened", 0), 0, 1));
        }
        return seen;
    }

    /** All calls are made on objects of a state, some at a time; behind them they look like one without them. */
    private static void changeNothing(State state, List<String> calls, List<int[]> values, List<Integer> dues) {
        List<Integer> relay = seenOfRelay(state.make());
        List<Integer> generations = seenOfGenerations(state.make());
        int some = 60;
        for (int from = 0; from < calls.size(); from += some) {
            Calls one = state.make();
            Calls other = state.make();
            int to = Math.min(from + some, calls.size());
            for (int k = from; k < to; k++) {
                one.due(calls.get(k), dues.get(k), values.get(k));
                other.ask(calls.get(k), values.get(k));
            }
            String which = Calls.told(calls.get(from), values.get(from)) + " .. "
                + Calls.told(calls.get(to - 1), values.get(to - 1));
            int promise = Calls.promiseOf(calls.get(from));
            Due.due(promise, which + " change nothing of the relay", seenOfRelay(one).equals(relay) ? 1 : 0, 1);
            Due.due(promise, which + " change nothing of GENERATIONS",
                seenOfGenerations(other).equals(generations) ? 1 : 0, 1);
        }
    }

    /** All mixes of right and wrong values of a call; those with a wrong one are asked. */
    private static void refused(State state, String call, Arg... args) {
        List<String> calls = new ArrayList<>();
        List<int[]> values = new ArrayList<>();
        List<Integer> dues = new ArrayList<>();
        int[] turn = new int[args.length];
        boolean more = true;
        while (more) {
            int[] v = new int[args.length];
            int due = LOW;
            for (int a = 0; a < args.length; a++) {
                int rights = args[a].right().length;
                boolean wrong = turn[a] >= rights;
                v[a] = wrong ? args[a].wrong()[turn[a] - rights] : args[a].right()[turn[a]];
                // the order is UNKNOWN, OUTSIDE: the greater number first
                due = wrong ? Math.max(due, args[a].refusal()) : due;
            }
            if (due != LOW) {
                calls.add(call);
                values.add(v);
                dues.add(due);
            }
            more = false;
            for (int a = 0; a < args.length && !more; a++) {
                turn[a] = (turn[a] + 1) % (args[a].right().length + args[a].wrong().length);
                more = turn[a] != 0;
            }
        }
        changeNothing(state, calls, values, dues);
    }

    /** Calls of one name, each refused with the same answer. */
    private static void refusedAs(State state, int due, String call, int[]... values) {
        List<String> calls = new ArrayList<>();
        List<Integer> dues = new ArrayList<>();
        for (int k = 0; k < values.length; k++) {
            calls.add(call);
            dues.add(due);
        }
        changeNothing(state, calls, Arrays.asList(values), dues);
    }

    // ---- the calls

    private static final int[] NO_STATIONS = {-1, 8, 32, LOW, HIGH};
    private static final int[] NO_LETTERS = {-1, 10, 32, 35, LOW, HIGH};
    private static final int[] NO_NODES = {-1, 4, LOW, HIGH};

    private static Arg station(int... right) {
        return unknown(right, NO_STATIONS);
    }

    private static Arg letterOf(int... right) {
        return unknown(right, NO_LETTERS);
    }

    private static Arg node(int... right) {
        return unknown(right, NO_NODES);
    }

    /** What is refused whatever there is. */
    private static void alwaysRefused(State state) {
        refused(state, "letter", letterOf(0, 9), outside(of(0, 255), -1, 256, LOW, HIGH));
        refused(state, "drop", letterOf());
        refused(state, "air", outside(of(), -1, 256, LOW, HIGH));
        refused(state, "most", outside(of(), 0, 11, -1, LOW, HIGH));
        refused(state, "having", station());
        refused(state, "reads", station(0, 7), outside(of(), 0, -1, 1024, 1025, LOW, HIGH));
        refused(state, "sum", outside(of(), 0, -1, 1024, LOW, HIGH), outside(of(0, 1, 2), -1, 3, LOW, HIGH));
        refused(state, "send", outside(of(), 0, -1, 1024, LOW, HIGH));
        refused(state, "serve", outside(of(), -1, 17, LOW, HIGH));
        refused(state, "key", outside(of(), -1, 128, LOW, HIGH));
        refused(state, "open", outside(of(), 0, 6, -1, LOW, HIGH), outside(of(0, -1)));
        refused(state, "text", outside(of(), 0, -1, 1024, LOW, HIGH), outside(of(-1, 0, 39), -2, 40, LOW, HIGH));
        refused(state, "many", outside(of(), -1, 9, LOW, HIGH));
        refused(state, "opened", unknown(of(), -1, 3, LOW, HIGH));
        refusedAs(state, UNKNOWN, "word", of());
    }

    private static void newObject() {
        State state = Calls::new;
        alwaysRefused(state);
        refused(state, "drop", unknown(of(), 0, 5, 9));
        refused(state, "has", station(0, 7), unknown(of(), 0, 9, 10), outside(of(0, 1), -1, 2));
        refused(state, "want", unknown(of(), 0, 9, 10), station(0, 7));
        refused(state, "entry", unknown(of(), 0, 1, -1, 16), outside(of(0, 1), -1, 2));
        refused(state, "reads", station(0, 7), outside(of(), 1, 512, 1023));
        refused(state, "sum", outside(of(), 1, 512, 1023), outside(of(0, 2), 3));
        refused(state, "send", outside(of(), 1, 512, 1023));
        refused(state, "text", outside(of(), 1, 512, 1023), outside(of(-1, 0), 40));
        generations(state, of(), of(0, 1, -1));
    }

    private static void half() {
        State state = RefusalsTest::makeHalf;
        alwaysRefused(state);
        refused(state, "drop", unknown(of(), 1, 2, 4, 8));
        refused(state, "has", station(0, 7), unknown(of(0, 9), 1, 8, -1, 10, 32, 41), outside(of(0, 1), -1, 2, LOW, HIGH));
        refused(state, "want", unknown(of(0, 9), 1, 8, -1, 10, 32, 41), unknown(of(), NO_STATIONS));
        refused(state, "want", unknown(of(), 1, 8, -1, 10, 32, 41), station(0, 7));
        refused(state, "entry", unknown(of(0), 3, 4, 16, -1, LOW, HIGH), outside(of(0, 1), -1, 2, LOW, HIGH));
        refused(state, "reads", station(0, 7), outside(of(1, 585), 2, 3, 256, 1023, 585 + 1024));
        refused(state, "sum", outside(of(1, 585), 2, 3, 256, 1023), outside(of(0, 1, 2), -1, 3));
        refused(state, "send", outside(of(), 2, 3, 256, 1023, 585 + 1024));
        refused(state, "text", outside(of(1, 585), 2, 3, 256, 1023), outside(of(-1, 39), -2, 40));
        refused(state, "opened", unknown(of(), 1, 2));
        generations(state, of(1), of(0, 2, -1, LOW, HIGH));
        refused(state, "row", unknown(of(1), 0), node(0), unknown(of(0, 2), 3, 4, -1, LOW, HIGH),
            outside(of(0, 5), 6, 7, -1, LOW, HIGH));
        refused(state, "row", unknown(of(1), 0), node(3), unknown(of(), 0, -1), outside(of(0), -1));
        refused(state, "read", unknown(of(1), 0), node(0, 3), outside(of(0, 2), 3, -1, LOW, HIGH),
            outside(of(0, 2), 3, -1, LOW, HIGH));
    }

    private static void full() {
        State state = RefusalsTest::makeFull;
        alwaysRefused(state);
        refused(state, "has", station(0, 7), letterOf(0, 9), outside(of(0, 1), -1, 2, LOW, HIGH));
        refused(state, "want", unknown(of(0, 9), NO_LETTERS), unknown(of(), NO_STATIONS));
        refused(state, "entry", unknown(of(0, 15), 16, -1, LOW, HIGH), outside(of(0, 1), -1, 2, LOW, HIGH));
        generations(state, of(0, 2), of(3, -1, LOW, HIGH));
        refused(state, "row", unknown(of(0), 3), node(0, 1), unknown(of(0, 4), 5, -1, LOW, HIGH),
            outside(of(0, 7), 8, -1, LOW, HIGH));
        refused(state, "read", unknown(of(0), 3), node(0, 3), outside(of(0, 4), 5, -1, LOW, HIGH),
            outside(of(0, 2), 3, -1, LOW, HIGH));
    }

    /** Calls of GENERATIONS that are open, and of some that are not. */
    private static void generations(State state, int[] open, int[] none) {
        Arg g = unknown(open, none);
        refused(state, "rank", g, node(0, 3));
        refused(state, "forAll", g, node(0, 3));
        refused(state, "rows", g, node(0, 3), outside(of(-1, 0, 59), -2, 60, LOW, HIGH));
        // right for the first two arguments alone: others are wrong in each
        refused(state, "mix", g, node(0, 3), node(1, 2), outside(of(0, 16806), -1, 16807, LOW, HIGH));
        refused(state, "mix", g, node(0, 3), node(0, 3), outside(of(), -1, 16807, LOW, HIGH));
        refused(state, "draw", g, node(0, 3), node(1, 2));
        refused(state, "draw", g, unknown(of(), NO_NODES), unknown(of(), NO_NODES));
        refused(state, "fresh", g, node(0, 3), node(1, 2));
        refused(state, "fresh", g, unknown(of(), NO_NODES), unknown(of(), NO_NODES));
        refused(state, "row", unknown(of(), none), node(0), unknown(of(0), -1), outside(of(0), -1));
        refused(state, "read", unknown(of(), none), node(0), outside(of(0), -1), outside(of(0), -1));
    }

    /** STATE and FULL, and STATE ahead of FULL. */
    private static void states() {
        State half = RefusalsTest::makeHalf;
        State full = RefusalsTest::makeFull;
        refusedAs(half, STATE, "want", of(3, 0), of(9, 7), of(9, 1), of(3, 1), of(0, 4), of(9, 6), of(6, 2));
        refusedAs(full, STATE, "want", of(9, 7), of(2, 0), of(0, 0), of(1, 6), of(3, 6), of(1, 0));
        refusedAs(full, FULL, "want", of(9, 1), of(2, 1), of(4, 6), of(9, 6));
        refusedAs(full, FULL, "key", of(0), of(127), of('x'));
        refusedAs(full, FULL, "open", of(1, 0), of(5, -1), of(5, LOW));
        for (int node = 0; node < 4; node++) {
            for (State state : new State[] {half, full}) {
                refusedAs(state, STATE, "mix", of(1, node, node, 0), of(1, node, node, 1), of(1, node, node, 16806));
                refusedAs(state, STATE, "draw", of(1, node, node));
                refusedAs(state, STATE, "fresh", of(1, node, node));
            }
        }
    }
}
