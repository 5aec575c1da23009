import java.util.ArrayList;
import java.util.List;
import java.util.TreeSet;

/**
 * The refusals of each promise, as its own words tell them and in their order, in a sale that is empty, in
 * one with some of all and in one that is full. Each argument is one below and one above each bound, at it,
 * and the smallest and the largest int, with all of these of the other arguments: so where two refusals
 * would do, the first is seen to come first. A call that is refused changes nothing but one count; a call
 * that isn't is answered as by the model, and behind it all is as in the model.
 */
public final class RefusalsTest {
    private static final Checks CHECKS = new Checks();
    private static final int LEAST_INT = Integer.MIN_VALUE;
    private static final int MOST_INT = Integer.MAX_VALUE;
    private static final int NOBODY = -1;
    private static final int OTHER = -2;
    private static final int STATE = -3;
    private static final int BELOW = -4;
    private static final int ROOM = -6;
    private static final int ALWAYS = -1;
    private static final int TWICE = -2;

    /** All that an object holds to which no call was made behind its filling. */
    private static List<Long> untouched = List.of();

    private enum State { EMPTY, SOME, FULL }

    /** One refusal: what it answers, and the bounds between which an argument is not refused. */
    private record Refusal(int number, int argument, int least, int most) {
        boolean fits(int[] a) {
            if (argument == ALWAYS) {
                return true;
            }
            if (argument == TWICE) {
                return a[0] == a[1];
            }
            return a[argument] < least || a[argument] > most;
        }
    }

    /** A method, and its refusals in the order in which its promise tells them. */
    private static final class Rule {
        private final int promise;
        private final String name;
        private final int arguments;
        private final List<Refusal> refusals = new ArrayList<>();

        Rule(int promise, String name, int arguments) {
            this.promise = promise;
            this.name = name;
            this.arguments = arguments;
        }

        Rule within(int number, int argument, int least, int most) {
            refusals.add(new Refusal(number, argument, least, most));
            return this;
        }

        Rule least(int argument, int least) {
            return within(BELOW, argument, least, MOST_INT);
        }

        Rule most(int argument, int most) {
            return within(ROOM, argument, LEAST_INT, most);
        }

        Rule when(int number, boolean so) {
            return so ? within(number, ALWAYS, 0, 0) : this;
        }

        int due(int[] a) {
            for (Refusal refusal : refusals) {
                if (refusal.fits(a)) {
                    return refusal.number();
                }
            }
            return 0;
        }

        int[] edges(int argument) {
            TreeSet<Integer> edges = new TreeSet<>(List.of(LEAST_INT, -1, 0, 1, MOST_INT));
            for (Refusal refusal : refusals) {
                if (refusal.argument() == argument) {
                    for (long bound : new long[] {refusal.least(), refusal.most()}) {
                        edges.add((int) Math.max(LEAST_INT, bound - 1));
                        edges.add((int) bound);
                        edges.add((int) Math.min(MOST_INT, bound + 1));
                    }
                }
            }
            return edges.stream().mapToInt(Integer::intValue).toArray();
        }
    }

    public static void main(String[] args) {
        for (State state : State.values()) {
            untouched = all(filled(state).x);
            List<Rule> rules = rules(state);
            CHECKS.part("" + state);
            CHECKS.due("methods", rules.size(), Calls.NAMES.length);
            for (Rule rule : rules) {
                CHECKS.part("Promise " + rule.promise + " in state " + state);
                tryAll(state, rule, new int[3], 0);
            }
        }
        CHECKS.end("RefusalsTest");
    }

    private static List<Rule> rules(State state) {
        int came = came(state);
        boolean full = state == State.FULL;
        List<Rule> rules = new ArrayList<>(changing(came, full));
        rules.addAll(asking(came));
        rules.addAll(guessing(came, full));
        rules.add(new Rule(34, "image", 0));
        rules.add(new Rule(35, "on", 0).when(STATE, state == State.EMPTY));
        rules.add(new Rule(36, "count", 1));
        return rules;
    }

    private static List<Rule> changing(int came, boolean full) {
        return List.of(
            // -4; -6 (255; 96, too)
            new Rule(2, "letter", 1).least(0, 0).most(0, 255).when(ROOM, full),
            new Rule(3, "auction", 0),
            // -1; -4 (1; 1); -6 (63; 99; a BID more, too)
            new Rule(4, "bids", 3).within(NOBODY, 0, 0, 4).least(1, 1).least(2, 1).most(1, 63).most(2, 99)
                .when(ROOM, full),
            new Rule(5, "turns", 1).within(NOBODY, 0, 0, came - 1),
            // -1; -4 1; -6 99
            new Rule(6, "price", 2).within(NOBODY, 0, 0, came - 1).least(1, 1).most(1, 99),
            // -1; -2; -4; -6 9
            new Rule(7, "kind", 3).within(NOBODY, 0, 0, 4).within(OTHER, 1, 0, 5).least(2, 0).most(2, 9),
            // -1; -4; -6 9
            new Rule(8, "keep", 2).within(NOBODY, 0, 0, 5).least(1, 0).most(1, 9));
    }

    private static List<Rule> asking(int came) {
        int allBids = (1 << came) - 1;
        return List.of(
            new Rule(9, "bid", 2).within(NOBODY, 0, 0, came - 1).within(OTHER, 1, 0, 5),
            new Rule(10, "bidder", 2).within(NOBODY, 0, 0, 4).within(OTHER, 1, 0, 4),
            // -4 below 0; -6 above all BIDS that came
            new Rule(11, "may", 1).least(0, 0).most(0, allBids),
            new Rule(12, "winners", 1).within(OTHER, 0, 0, 3),
            // -4; -2: in this order
            new Rule(13, "rank", 2).least(0, 0).within(OTHER, 1, 0, 1),
            new Rule(14, "item", 2).within(NOBODY, 0, 0, 5).within(OTHER, 1, 0, 3),
            new Rule(15, "rival", 2).within(NOBODY, 0, 0, came - 1).within(OTHER, 1, 0, 2),
            // -4; -6 likewise; -2
            new Rule(16, "of", 2).least(0, 0).most(0, allBids).within(OTHER, 1, 0, 1),
            new Rule(17, "pays", 2).within(NOBODY, 0, 0, 4).within(OTHER, 1, 0, 2),
            // -2 either
            new Rule(18, "blocks", 2).within(OTHER, 0, 0, 2).within(OTHER, 1, 0, 1),
            new Rule(19, "lifts", 0),
            // (bits, 0 .. 31): -4; -6; -2
            new Rule(20, "group", 2).least(0, 0).most(0, 31).within(OTHER, 1, 0, 4),
            // -1 either (one twice, too)
            new Rule(21, "envy", 2).within(NOBODY, 0, 0, 4).within(NOBODY, 1, 0, 4).within(NOBODY, TWICE, 0, 0),
            new Rule(22, "gain", 1).within(NOBODY, 0, 0, 4),
            new Rule(23, "without", 1).within(NOBODY, 0, 0, came - 1),
            new Rule(24, "least", 1).within(NOBODY, 0, 0, came - 1),
            new Rule(25, "tight", 0));
    }

    private static List<Rule> guessing(int came, boolean full) {
        return List.of(
            // odds 1 in t (2 .. 20): -1; -4; -6 20; -2
            new Rule(26, "missing", 3).within(NOBODY, 0, 0, came - 1).least(1, 2).most(1, 20).within(OTHER, 2, 0, 1),
            // -2 either
            new Rule(27, "mean", 2).within(OTHER, 0, 0, 2).within(OTHER, 1, 0, 1),
            // -4 below -1
            new Rule(28, "printed", 1).least(0, -1),
            new Rule(29, "whatIs", 2).within(NOBODY, 0, 0, 4).within(OTHER, 1, 0, 1),
            // -4; -6 (99; 5, too)
            new Rule(30, "row", 1).least(0, 0).most(0, 99).when(ROOM, full),
            new Rule(31, "judge", 1).within(OTHER, 0, 0, 2),
            new Rule(32, "clear", 0),
            // n auctions (1 .. 20): -4; -6 20; -2; any z
            new Rule(33, "lots", 3).least(0, 1).most(0, 20).within(OTHER, 2, 0, 1));
    }

    private static void tryAll(State state, Rule rule, int[] a, int argument) {
        if (argument == rule.arguments) {
            tryOne(state, rule, a);
            return;
        }
        for (int edge : rule.edges(argument)) {
            a[argument] = edge;
            tryAll(state, rule, a, argument + 1);
        }
        a[argument] = 0;
    }

    private static void tryOne(State state, Rule rule, int[] a) {
        Twin twin = filled(state);
        String call = rule.name + java.util.Arrays.toString(java.util.Arrays.copyOf(a, rule.arguments));
        long[] counts = refusalCounts(twin.x);
        int refused = rule.due(a);
        long want = Calls.of(twin.model, rule.name, a[0], a[1], a[2]);
        long got = Calls.of(twin.x, rule.name, a[0], a[1], a[2]);
        CHECKS.due(call, got, want);
        if (refused != 0) {
            CHECKS.due(call + ", refused", got, told(rule.name, refused));
            counts[-refused]++;
        }
        long[] after = refusalCounts(twin.x);
        for (int number = 1; number <= 6; number++) {
            CHECKS.due(call + ", then count(1" + number + ")", after[number], counts[number]);
        }
        compare("behind " + call, all(twin.x), refused != 0 ? untouched : all(twin.model));
    }

    /** Of longs 4000000000000000000 less the number; of gain -100000 and the number. */
    private static long told(String name, int number) {
        if (name.equals("missing") || name.equals("mean")) {
            return 4000000000000000000L - number;
        }
        return name.equals("gain") ? -100000 + number : number;
    }

    private static long[] refusalCounts(BundlesOfBids x) {
        long[] counts = new long[7];
        for (int number = 1; number <= 6; number++) {
            counts[number] = x.count(10 + number);
        }
        return counts;
    }

    private static void compare(String when, List<Long> got, List<Long> want) {
        for (int i = 0; i < want.size() && i < got.size(); i++) {
            CHECKS.due(when + " number " + i + " of all", got.get(i), want.get(i));
        }
        CHECKS.due(when + " all", got.size(), want.size());
    }

    /** A call by its name, on the class or on the model. */
    private interface Asked {
        long of(String name, int p, int q);
    }

    private static List<Long> all(BundlesOfBids x) {
        return all((name, p, q) -> Calls.of(x, name, p, q, 0));
    }

    private static List<Long> all(Model model) {
        return all((name, p, q) -> Calls.of(model, name, p, q, 0));
    }

    /** All that an object holds but how many refusals there were: letters, ROW and image are asked last. */
    private static List<Long> all(Asked x) {
        List<Long> seen = new ArrayList<>();
        addSale(x, seen);
        for (int what = 0; what < 4; what++) {
            seen.add(x.of("winners", what, 0));
        }
        for (int who = 0; who < 5; who++) {
            seen.add(x.of("pays", who, 2));
        }
        seen.add(x.of("count", 5, 0));
        seen.add(x.of("count", 6, 0));
        seen.add(x.of("judge", 1, 0));
        seen.add(x.of("clear", 0, 0));
        seen.add(x.of("auction", 0, 0));
        addSale(x, seen);
        seen.add(x.of("on", 0, 0));
        addSale(x, seen);
        return seen;
    }

    private static void addSale(Asked x, List<Long> seen) {
        for (int what = 0; what <= 4; what++) {
            seen.add(x.of("count", what, 0));
        }
        for (int b = 0; b < x.of("count", 0, 0); b++) {
            for (int what = 0; what < 4; what++) {
                seen.add(x.of("bid", b, what));
            }
        }
        for (int who = 0; who < 5; who++) {
            for (int what = 0; what < 3; what++) {
                seen.add(x.of("bidder", who, what));
            }
        }
        for (int i = 0; i < 6; i++) {
            seen.add(x.of("item", i, 0));
        }
    }

    /** The class and the model, to which the same calls are made. */
    private static final class Twin {
        private final BundlesOfBids x = new BundlesOfBids();
        private final Model model = new Model();

        long make(String name, int... a) {
            int p = a.length > 0 ? a[0] : 0;
            int q = a.length > 1 ? a[1] : 0;
            int r = a.length > 2 ? a[2] : 0;
            Calls.of(model, name, p, q, r);
            return Calls.of(x, name, p, q, r);
        }

        void send(String text) {
            for (int i = 0; i < text.length(); i++) {
                make("letter", text.charAt(i));
            }
        }
    }

    private static int came(State state) {
        return state == State.EMPTY ? 0 : state == State.SOME ? 3 : 10;
    }

    private static Twin filled(State state) {
        Twin twin = new Twin();
        if (state == State.SOME) {
            fillSome(twin);
        } else if (state == State.FULL) {
            fillWhole(twin);
        }
        return twin;
    }

    private static void fillSome(Twin twin) {
        twin.make("bids", 0, 3, 20);
        twin.make("image");
        twin.make("bids", 1, 1, 12);
        twin.make("bids", 2, 2, 11);
        twin.make("kind", 1, 4, 2);
        twin.make("keep", 2, 5);
        twin.make("row", 0);
        twin.make("row", 9);
        twin.send("off 0;keep a 3;");
    }

    private static void fillWhole(Twin twin) {
        for (int b = 0; b < 10; b++) {
            twin.make("bids", b % 5, b < 6 ? 1 << b : 3 << b - 6, 20 + b);
        }
        for (int who = 0; who < 5; who++) {
            twin.make("kind", who, who + 1, 9 - who);
        }
        twin.make("image");
        for (int i = 0; i < 6; i++) {
            twin.make("keep", i, 9 - i);
        }
        twin.make("turns", 7);
        twin.make("price", 9, 99);
        for (int who = 0; who < 5; who++) {
            twin.make("row", twin.x.pays(who, 1));
        }
        twin.send("price 0 99;price 1 98;price 2 97;price 3 96;price 4 95;price 5 94;off 0;off 1;off 2;off 3;off 4;");
        CHECKS.due("letters", twin.x.count(6), 96);
        CHECKS.due("told payments", twin.x.count(5), 5);
        CHECKS.due("BIDS", twin.x.count(0), 10);
    }
}
