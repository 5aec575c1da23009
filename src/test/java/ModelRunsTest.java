import java.util.Random;

/** Runs of chosen calls on the class and on the model, call by call alike; the choices are always the same. */
public final class ModelRunsTest {
    // Behind the 512th call all is free: a text of 96 letters, and what it becomes, must still fit.
    private static final int CALLS = 512 - 97;
    private static final Checks CHECKS = new Checks();
    private static final long[] SEEN_MOST = new long[Calls.NAMES.length];
    private static final long[] SEEN_LEAST = new long[Calls.NAMES.length];

    private final Random random;
    private final BundlesOfBids x = new BundlesOfBids();
    private final Model model = new Model();
    private final int most;
    /** Whether nearly all bidders stay ANY: then groups block, and payments are lifted, more often. */
    private final boolean plain;
    /** Whether few bidders bid much alike on few items: then there is envy, and many ties. */
    private final boolean few;
    /** Whether wrong numbers come often, and far off ones. */
    private final boolean odd;
    private int calls = 0;

    private ModelRunsTest(int seed) {
        random = new Random(seed);
        most = seed % 8 == 0 ? 10 : 3 + random.nextInt(6);
        plain = seed % 3 == 0;
        few = seed % 3 == 1;
        odd = seed % 10 == 9;
    }

    public static void main(String[] args) {
        int runs = args.length > 0 ? Integer.parseInt(args[0]) : 240;
        for (int seed = 1; seed <= runs && CHECKS.isClean(); seed++) {
            CHECKS.part("run " + seed);
            new ModelRunsTest(seed).run();
        }
        for (int seed = 1; seed <= 5 * runs && CHECKS.isClean(); seed++) {
            CHECKS.part("sale " + seed);
            new ModelRunsTest(seed).askOfOneSale();
        }
        CHECKS.part("what the runs saw");
        sees("lifts", 0, 2);
        sees("envy", -1, 2);
        sees("gain", -2, 2);
        sees("least", -9, 50);
        sees("tight", 0, 3);
        sees("blocks", -9, 16);
        sees("auction", -2002, 3);
        sees("whatIs", 0, 900);
        CHECKS.end("ModelRunsTest");
    }

    private static void sees(String name, long least, long greatest) {
        int which = Calls.place(name);
        CHECKS.holds(name + " comes down to " + least, SEEN_LEAST[which] <= least);
        CHECKS.holds(name + " comes up to " + greatest, SEEN_MOST[which] >= greatest);
    }

    private void run() {
        while (calls < CALLS && CHECKS.isClean()) {
            int choice = random.nextInt(100);
            if (choice < 12) {
                say(statements());
            } else if (choice < 30) {
                change();
            } else {
                askAny();
            }
        }
    }

    private void askAny() {
        String name = Calls.NAMES[7 + random.nextInt(Calls.NAMES.length - 7)];
        ask(name.equals("on") && upTo(3) > 0 ? "lifts" : name);
    }

    /** A sale of three bidders of all kinds, and of it each thing that can be asked. */
    private void askOfOneSale() {
        for (int who = 0; who < 3; who++) {
            compare("kind", new int[] {who, upTo(5), upTo(3)});
        }
        for (int i = upTo(1) * upTo(2); i > 0; i--) {
            compare("keep", new int[] {upTo(2), upTo(9)});
        }
        int many = 2 + upTo(5);
        for (int b = 0; b < many; b++) {
            compare("bids", new int[] {upTo(2), 1 + upTo(6), 1 + upTo(plain ? 9 : 29)});
        }
        String[] twice = {"envy 2 2", "pays 2 2", "blocks 2 1", "mean 2 1", "item 3 3", "bidder 2 4", "winners 3 0",
            "rank 9 1", "bid " + (many - 1) + " 5", "rival " + (many - 1) + " 2", "gain 2 0", "lifts 0 0", "tight 0 0",
            "least " + (many - 1) + " 0", "without " + (many - 1) + " 0", "group 7 4", "whatIs 2 1"};
        for (int told = upTo(1); told > 0; told--) {
            compare("row", new int[] {model.pays(0, 1)});
        }
        for (String ask : twice) {
            String[] parts = ask.split(" ");
            for (int p = 0; p <= Integer.parseInt(parts[1]); p++) {
                for (int q = 0; q <= Integer.parseInt(parts[2]); q++) {
                    compare(parts[0], new int[] {p, q});
                }
            }
        }
        for (int b = 0; b < many; b++) {
            compare("missing", new int[] {b, 2 + upTo(18), upTo(1)});
        }
        compare("lots", new int[] {1 + upTo(3), random.nextInt(), upTo(1)});
    }

    private int upTo(int most) {
        return random.nextInt(most + 1);
    }

    /** Mostly 0 .. most, now and then beside it. */
    private int about(int most) {
        int choice = random.nextInt(odd ? 9 : 40);
        if (choice == 0) {
            return most + 1;
        }
        if (choice == 1) {
            return -1;
        }
        int[] far = {random.nextInt(), Integer.MIN_VALUE, Integer.MAX_VALUE, 64, 1024};
        return choice == 2 ? far[upTo(far.length - 1)] : upTo(most);
    }

    private int anyBid() {
        return about(Math.max(0, model.count(0) - 1));
    }

    private int anySet() {
        int last = few ? 2 : 5;
        int set = 1 << upTo(last);
        for (int i = upTo(2); i > 0; i--) {
            set |= 1 << upTo(last);
        }
        return set;
    }

    private int anyPrice() {
        if (few) {
            return 4 + upTo(8);
        }
        return random.nextBoolean() ? 1 + upTo(19) : about(99);
    }

    private void change() {
        if (model.count(0) < most / 2) {
            ask("bids");
            return;
        }
        String[] names = {"bids", "bids", "turns", "price", plain ? "bids" : "kind", "keep"};
        ask(names[random.nextInt(names.length)]);
    }

    private void ask(String name) {
        int[] a = arguments(name);
        if (name.equals("bids") && model.count(0) >= most && upTo(9) > 0) {
            return;
        }
        if (model.count(0) > 6 && upTo(9) > 0 && (name.equals("lots") || name.equals("least") || name.equals("whatIs"))) {
            return;
        }
        compare(name, a);
    }

    private int[] arguments(String name) {
        switch (name) {
            case "letter":
                return new int[] {about(255)};
            case "bids":
                return new int[] {about(few ? 1 : 4), upTo(20) == 0 ? about(63) : anySet(), anyPrice()};
            case "turns":
            case "without":
            case "least":
                return new int[] {anyBid()};
            case "price":
                return new int[] {anyBid(), anyPrice()};
            case "kind":
                return new int[] {about(4), about(5), upTo(1) == 0 ? about(3) : about(9)};
            case "keep":
                return new int[] {about(5), about(9)};
            case "bid":
                return new int[] {anyBid(), about(5)};
            case "bidder":
                return new int[] {about(4), about(4)};
            case "may":
                return new int[] {about((1 << model.count(0)) - 1)};
            case "winners":
                return new int[] {about(3)};
            case "rank":
                return new int[] {about(20), about(1)};
            case "item":
                return new int[] {about(5), about(3)};
            case "rival":
                return new int[] {anyBid(), about(2)};
            case "of":
                return new int[] {about((1 << model.count(0)) - 1), about(1)};
            case "pays":
                return new int[] {about(4), about(2)};
            case "blocks":
                return new int[] {about(2), about(1)};
            case "group":
                return new int[] {about(31), about(4)};
            case "envy":
                return new int[] {about(few ? 1 : 4), about(few ? 1 : 4)};
            case "gain":
                return new int[] {about(4)};
            case "missing":
                return new int[] {anyBid(), 2 + about(18), about(1)};
            case "mean":
                return new int[] {about(2), about(1)};
            case "printed":
                return new int[] {about(50) - 1};
            case "whatIs":
                return new int[] {about(4), about(1)};
            case "row":
                return new int[] {anyTold()};
            case "judge":
                return new int[] {about(2)};
            case "lots":
                return new int[] {1 + about(upTo(5) == 0 ? 19 : 3), random.nextInt(), about(1)};
            case "count":
                return new int[] {about(17)};
            default:
                return new int[0];
        }
    }

    /** Mostly what is so, that a row may last. */
    private int anyTold() {
        return upTo(3) == 0 ? about(99) : model.pays(Math.min(4, model.count(5)), 1 + upTo(1));
    }

    private String statements() {
        StringBuilder text = new StringBuilder();
        for (int i = upTo(3); i >= 0; i--) {
            text.append(statement()).append(upTo(40) == 0 ? "" : ";");
        }
        for (int i = upTo(5); i == 0; i = upTo(2)) {
            int place = random.nextInt(text.length());
            String signs = " ;0123abcdefgzbidoffkindkeepprice\u0000\u00ff";
            char sign = signs.charAt(random.nextInt(signs.length()));
            if (upTo(2) == 0) {
                text.insert(place, sign);
            } else if (upTo(1) == 0 && text.length() > 1) {
                text.deleteCharAt(place);
            } else {
                text.setCharAt(place, sign);
            }
        }
        return text.toString();
    }

    private String number(int most) {
        int value = upTo(25) == 0 ? upTo(99) : upTo(most);
        return upTo(9) == 0 && value < 10 ? "0" + value : String.valueOf(value);
    }

    private String statement() {
        int last = Math.max(0, model.count(0));
        switch (random.nextInt(6)) {
            case 0:
                return "off " + number(last);
            case 1:
                return plain ? "price " + number(last) + " " + number(99)
                    : "kind " + number(4) + " " + number(5) + " " + number(9);
            case 2:
                return "keep " + (char) ('a' + upTo(upTo(9) == 0 ? 25 : 5)) + " " + number(9);
            case 3:
                return "price " + number(last) + " " + number(30);
            default:
                StringBuilder items = new StringBuilder();
                for (char c = 'a'; c <= 'f'; c++) {
                    items.append(upTo(2) == 0 ? String.valueOf(c) : "");
                }
                items.append(items.length() == 0 || upTo(15) == 0 ? String.valueOf((char) ('a' + upTo(6))) : "");
                return model.count(0) >= most && upTo(3) > 0 ? "off 0" : "bid " + number(4) + " " + items + " " + number(30);
        }
    }

    private void say(String text) {
        for (int i = 0; i < text.length(); i++) {
            compare("letter", new int[] {text.charAt(i)});
            // Letters stay whatever is asked or changed between them.
            if (calls < CALLS && upTo(19) == 0) {
                askAny();
            } else if (calls < CALLS && upTo(39) == 0) {
                change();
            }
        }
        compare("auction", new int[0]);
    }

    private void compare(String name, int[] a) {
        calls++;
        int p = a.length > 0 ? a[0] : 0;
        int q = a.length > 1 ? a[1] : 0;
        int r = a.length > 2 ? a[2] : 0;
        long want = Calls.of(model, name, p, q, r);
        long got = Calls.of(x, name, p, q, r);
        int which = Calls.place(name);
        SEEN_MOST[which] = Math.max(SEEN_MOST[which], want);
        SEEN_LEAST[which] = Math.min(SEEN_LEAST[which], want);
        CHECKS.due("call " + calls + " " + name + java.util.Arrays.toString(a), got, want);
    }
}
