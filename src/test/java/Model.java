import java.math.BigInteger;
import java.util.ArrayList;
import java.util.Comparator;
import java.util.List;
import java.util.regex.Matcher;
import java.util.regex.Pattern;

/**
 * The document once more, said as literally as the Java library lets one, by trying out all sets.
 * It shares no code and no way of counting with the class: what the two answer must be alike.
 */
final class Model {
    private static final Pattern AUCTION = Pattern.compile("(?:(?:"
        + "bid [0-9]{1,2} [a-z]+ [0-9]{1,2}|off [0-9]{1,2}|kind [0-9]{1,2} [0-9]{1,2} [0-9]{1,2}"
        + "|keep [a-z] [0-9]{1,2}|price [0-9]{1,2} [0-9]{1,2});)+");
    private static final List<String> WORDS = List.of("bid", "off", "kind", "keep", "price");

    static final class Bid {
        int bidder;
        int set;
        int price;
        boolean on = true;

        Bid(int bidder, int set, int price) {
            this.bidder = bidder;
            this.set = set;
            this.price = price;
        }

        Bid copy() {
            Bid bid = new Bid(bidder, set, price);
            bid.on = on;
            return bid;
        }
    }

    static final class World {
        final List<Bid> bids = new ArrayList<>();
        int[] kinds = new int[5];
        int[] figures = new int[5];
        int[] reserves = new int[6];

        World copy() {
            World world = new World();
            for (Bid bid : bids) {
                world.bids.add(bid.copy());
            }
            world.kinds = kinds.clone();
            world.figures = figures.clone();
            world.reserves = reserves.clone();
            return world;
        }

        int onBits() {
            int bits = 0;
            for (int b = 0; b < bids.size(); b++) {
                bits |= bids.get(b).on ? 1 << b : 0;
            }
            return bits;
        }

        int bitsOf(int bidders) {
            int bits = 0;
            for (int b = 0; b < bids.size(); b++) {
                bits |= (bidders >> bids.get(b).bidder & 1) << b;
            }
            return bits;
        }

        int prices(int bits) {
            int sum = 0;
            for (int b = 0; b < bids.size(); b++) {
                sum += (bits >> b & 1) == 1 ? bids.get(b).price : 0;
            }
            return sum;
        }

        int items(int bits) {
            int items = 0;
            for (int b = 0; b < bids.size(); b++) {
                items |= (bits >> b & 1) == 1 ? bids.get(b).set : 0;
            }
            return items;
        }

        int kept(int items) {
            int sum = 0;
            for (int i = 0; i < 6; i++) {
                sum += (items >> i & 1) == 1 ? 0 : reserves[i];
            }
            return sum;
        }

        int worth(int bits) {
            return prices(bits) + kept(items(bits));
        }

        boolean disjoint(int bits) {
            int sizes = 0;
            for (int b = 0; b < bids.size(); b++) {
                sizes += (bits >> b & 1) == 1 ? Integer.bitCount(bids.get(b).set) : 0;
            }
            return sizes == Integer.bitCount(items(bits));
        }

        /** Kinds as the tree that the document tells: each asks the one that it is under. */
        boolean may(int kind, int figure, int bits) {
            int held = Integer.bitCount(bits);
            if (kind == 0) {
                return true;
            }
            if (kind == 1) {
                return held <= 1 && may(0, figure, bits);
            }
            if (kind == 2) {
                return held <= figure && may(0, figure, bits);
            }
            if (kind == 3) {
                return prices(bits) <= figure * 10 && may(0, figure, bits);
            }
            if (kind == 4) {
                return (held == 0 || Integer.bitCount(items(bits)) <= figure) && may(1, figure, bits);
            }
            return (held == 0 || held >= 2) && may(2, figure, bits);
        }

        boolean outcome(int bits) {
            if ((bits & ~onBits()) != 0 || !disjoint(bits)) {
                return false;
            }
            for (int who = 0; who < 5; who++) {
                if (!may(kinds[who], figures[who], bits & bitsOf(1 << who))) {
                    return false;
                }
            }
            return true;
        }

        List<Integer> ranking() {
            List<Integer> all = new ArrayList<>();
            for (int bits = 0; bits < 1 << bids.size(); bits++) {
                if (outcome(bits)) {
                    all.add(bits);
                }
            }
            Comparator<Integer> byWorth = Comparator.comparingInt(bits -> -worth(bits));
            all.sort(byWorth.thenComparingInt(Integer::bitCount).thenComparingInt(bits -> bits));
            return all;
        }

        int winners(int some) {
            int best = 0;
            for (int bits = some; bits > 0; bits = bits - 1 & some) {
                if (outcome(bits) && ahead(bits, best)) {
                    best = bits;
                }
            }
            return best;
        }

        private boolean ahead(int one, int other) {
            if (worth(one) != worth(other)) {
                return worth(one) > worth(other);
            }
            if (Integer.bitCount(one) != Integer.bitCount(other)) {
                return Integer.bitCount(one) < Integer.bitCount(other);
            }
            return one < other;
        }

        int everything() {
            return (1 << bids.size()) - 1;
        }

        int winners() {
            return winners(everything());
        }

        int won(int who) {
            return prices(winners() & bitsOf(1 << who));
        }

        int harm(int bits) {
            int all = winners();
            return worth(winners(everything() & ~bits)) - (worth(all) - prices(all & bits));
        }

        int[] payments(int how) {
            int[] pays = new int[5];
            int all = winners();
            for (int who = 0; who < 5; who++) {
                int own = bitsOf(1 << who);
                if (prices(all & own) > 0) {
                    pays[who] = how == 0 ? prices(all & own) : harm(own);
                }
            }
            if (how == 2) {
                lift(pays);
            }
            return pays;
        }

        /** How often it lifted. */
        int lift(int[] pays) {
            int[] own = groupWorths();
            int times = 0;
            while (blocker(pays, own) >= 0) {
                int group = blocker(pays, own);
                int left = blocksBy(group, pays, own);
                for (int who = 0; who < 5; who++) {
                    while ((group >> who & 1) == 0 && left > 0 && pays[who] < won(who)) {
                        pays[who]++;
                        left--;
                    }
                }
                times++;
            }
            return times;
        }

        int[] groupWorths() {
            int[] own = new int[32];
            for (int group = 0; group < 32; group++) {
                own[group] = worth(winners(bitsOf(group)));
            }
            return own;
        }

        int blocksBy(int group, int[] pays, int[] own) {
            int by = own[group] - kept(items(winners()));
            for (int who = 0; who < 5; who++) {
                by -= pays[who];
                by -= (group >> who & 1) == 1 ? won(who) - pays[who] : 0;
            }
            return Math.max(by, 0);
        }

        int blocker(int[] pays, int[] own) {
            int best = -9;
            for (int group = 31; group >= 0; group--) {
                int by = blocksBy(group, pays, own);
                if (by > 0 && (best < 0 || by >= blocksBy(best, pays, own))) {
                    best = group;
                }
            }
            return best;
        }

        List<Integer> order() {
            List<Integer> order = new ArrayList<>();
            for (int b = 0; b < bids.size(); b++) {
                if (bids.get(b).on) {
                    order.add(b);
                }
            }
            order.sort((a, b) -> {
                Ratio one = share(a);
                Ratio other = share(b);
                return other.compareTo(one) != 0 ? other.compareTo(one) : a - b;
            });
            return order;
        }

        Ratio share(int b) {
            return new Ratio(bids.get(b).price, Integer.bitCount(bids.get(b).set));
        }
    }

    /** A fraction with a line above 0. */
    record Ratio(BigInteger above, BigInteger below) implements Comparable<Ratio> {
        Ratio(long above, long below) {
            this(BigInteger.valueOf(above), BigInteger.valueOf(below));
        }

        Ratio plus(Ratio other) {
            return new Ratio(above.multiply(other.below).add(other.above.multiply(below)), below.multiply(other.below));
        }

        Ratio times(Ratio other) {
            return new Ratio(above.multiply(other.above), below.multiply(other.below));
        }

        long part(int part) {
            BigInteger common = above.gcd(below);
            if (above.signum() == 0) {
                return part;
            }
            return (part == 0 ? above : below).divide(common).longValueExact();
        }

        @Override
        public int compareTo(Ratio other) {
            return above.multiply(other.below).compareTo(other.above.multiply(below));
        }
    }

    private World world = new World();
    private World picture = null;
    private StringBuilder text = new StringBuilder();
    private List<Integer> told = new ArrayList<>();
    private final int[] refusals = new int[7];
    private int looked;
    private int found;

    private int refuse(int number) {
        refusals[-number]++;
        return number;
    }

    private long refuseLong(int number) {
        return 4000000000000000000L - refuse(number);
    }

    private boolean noBid(int bid) {
        return bid < 0 || bid >= world.bids.size();
    }

    private static boolean noBidder(int who) {
        return who < 0 || who > 4;
    }

    int letter(int c) {
        if (c < 0) {
            return refuse(-4);
        }
        if (c > 255 || text.length() == 96) {
            return refuse(-6);
        }
        text.append((char) c);
        return text.length();
    }

    int auction() {
        String said = text.toString();
        text = new StringBuilder();
        int fault = form(said);
        if (fault >= 0) {
            return -1000 - fault;
        }
        World next = world.copy();
        int place = 0;
        int statements = 0;
        for (String statement : said.split(";")) {
            if (!sense(next, statement.split(" "))) {
                return -2000 - place;
            }
            place += statement.length() + 1;
            statements++;
        }
        world = next;
        return statements;
    }

    /** The place of the fault, -1 if there is none. */
    private static int form(String said) {
        if (AUCTION.matcher(said).matches()) {
            return -1;
        }
        int good = 0;
        while (good < said.length() && goesOn(said.substring(0, good + 1))) {
            good++;
        }
        int start = said.substring(0, good).lastIndexOf(';') + 1;
        int end = start;
        while (end < said.length() && said.charAt(end) >= 'a' && said.charAt(end) <= 'z') {
            end++;
        }
        return WORDS.contains(said.substring(start, end)) ? good : start;
    }

    private static boolean goesOn(String begin) {
        Matcher matcher = AUCTION.matcher(begin);
        return matcher.matches() || matcher.hitEnd();
    }

    private static boolean sense(World next, String[] words) {
        switch (words[0]) {
            case "bid": {
                int who = Integer.parseInt(words[1]);
                int price = Integer.parseInt(words[3]);
                int set = 0;
                for (char c : words[2].toCharArray()) {
                    if (c > 'f' || (set >> c - 'a' & 1) == 1) {
                        return false;
                    }
                    set |= 1 << c - 'a';
                }
                if (who > 4 || price == 0 || next.bids.size() == 10) {
                    return false;
                }
                next.bids.add(new Bid(who, set, price));
                return true;
            }
            case "off": {
                int bid = Integer.parseInt(words[1]);
                if (bid >= next.bids.size()) {
                    return false;
                }
                next.bids.get(bid).on = !next.bids.get(bid).on;
                return true;
            }
            case "kind": {
                int who = Integer.parseInt(words[1]);
                int kind = Integer.parseInt(words[2]);
                int figure = Integer.parseInt(words[3]);
                if (who > 4 || kind > 5 || figure > 9) {
                    return false;
                }
                next.kinds[who] = kind;
                next.figures[who] = figure;
                return true;
            }
            case "keep": {
                int item = words[1].charAt(0) - 'a';
                int reserve = Integer.parseInt(words[2]);
                if (item > 5 || reserve > 9) {
                    return false;
                }
                next.reserves[item] = reserve;
                return true;
            }
            default: {
                int bid = Integer.parseInt(words[1]);
                int price = Integer.parseInt(words[2]);
                if (bid >= next.bids.size() || price == 0) {
                    return false;
                }
                next.bids.get(bid).price = price;
                return true;
            }
        }
    }

    int bids(int who, int items, int price) {
        if (noBidder(who)) {
            return refuse(-1);
        }
        if (items < 1 || price < 1) {
            return refuse(-4);
        }
        if (items > 63 || price > 99 || world.bids.size() == 10) {
            return refuse(-6);
        }
        world.bids.add(new Bid(who, items, price));
        return world.bids.size() - 1;
    }

    int turns(int bid) {
        if (noBid(bid)) {
            return refuse(-1);
        }
        world.bids.get(bid).on = !world.bids.get(bid).on;
        return world.bids.get(bid).on ? 1 : 0;
    }

    int price(int bid, int price) {
        if (noBid(bid)) {
            return refuse(-1);
        }
        if (price < 1) {
            return refuse(-4);
        }
        if (price > 99) {
            return refuse(-6);
        }
        int old = world.bids.get(bid).price;
        world.bids.get(bid).price = price;
        return old;
    }

    int kind(int who, int kind, int figure) {
        if (noBidder(who)) {
            return refuse(-1);
        }
        if (kind < 0 || kind > 5) {
            return refuse(-2);
        }
        if (figure < 0) {
            return refuse(-4);
        }
        if (figure > 9) {
            return refuse(-6);
        }
        int old = world.kinds[who] * 10 + world.figures[who];
        world.kinds[who] = kind;
        world.figures[who] = figure;
        return old;
    }

    int keep(int item, int reserve) {
        if (item < 0 || item > 5) {
            return refuse(-1);
        }
        if (reserve < 0) {
            return refuse(-4);
        }
        if (reserve > 9) {
            return refuse(-6);
        }
        int old = world.reserves[item];
        world.reserves[item] = reserve;
        return old;
    }

    int bid(int number, int what) {
        if (noBid(number)) {
            return refuse(-1);
        }
        if (what < 0 || what > 5) {
            return refuse(-2);
        }
        Bid bid = world.bids.get(number);
        int place = world.order().indexOf(number);
        int[] answers = {bid.bidder, bid.set, bid.price, bid.on ? 1 : 0, world.winners() >> number & 1,
            place < 0 ? -9 : place};
        return answers[what];
    }

    int bidder(int who, int what) {
        if (noBidder(who)) {
            return refuse(-1);
        }
        if (what < 0 || what > 4) {
            return refuse(-2);
        }
        int own = world.bitsOf(1 << who);
        int[] answers = {world.kinds[who], world.figures[who], own, world.won(who), world.harm(own)};
        return answers[what];
    }

    int may(int bits) {
        if (bits < 0) {
            return refuse(-4);
        }
        if (bits > world.everything()) {
            return refuse(-6);
        }
        return world.outcome(bits) ? 1 : 0;
    }

    int winners(int what) {
        if (what < 0 || what > 3) {
            return refuse(-2);
        }
        int all = world.winners();
        int[] answers = {all, world.worth(all), world.items(all), search()};
        return answers[what];
    }

    private int search() {
        looked = 0;
        found = 0;
        branch(world.order(), new ArrayList<>());
        return looked;
    }

    /** What is chosen so far of the order, one by one: the bid or -1. */
    private void branch(List<Integer> order, List<Integer> chosen) {
        looked++;
        int taken = 0;
        for (int bid : chosen) {
            taken |= bid < 0 ? 0 : 1 << bid;
        }
        Ratio bound = new Ratio(world.prices(taken), 1);
        for (int item = 0; item < 6; item++) {
            if ((world.items(taken) >> item & 1) == 0) {
                Ratio most = new Ratio(world.reserves[item], 1);
                for (int bid : order.subList(chosen.size(), order.size())) {
                    boolean has = (world.bids.get(bid).set >> item & 1) == 1;
                    most = has && world.share(bid).compareTo(most) > 0 ? world.share(bid) : most;
                }
                bound = bound.plus(most);
            }
        }
        if (bound.compareTo(new Ratio(found, 1)) < 0) {
            return;
        }
        if (chosen.size() == order.size()) {
            found = world.outcome(taken) ? Math.max(found, world.worth(taken)) : found;
            return;
        }
        int next = order.get(chosen.size());
        List<Integer> longer = new ArrayList<>(chosen);
        if (world.disjoint(taken | 1 << next)) {
            longer.add(next);
            branch(order, longer);
            longer.remove(longer.size() - 1);
        }
        longer.add(-1);
        branch(order, longer);
    }

    int rank(int k, int what) {
        if (k < 0) {
            return refuse(-4);
        }
        if (what < 0 || what > 1) {
            return refuse(-2);
        }
        List<Integer> all = world.ranking();
        if (k >= all.size()) {
            return -9;
        }
        return what == 0 ? all.get(k) : world.worth(all.get(k));
    }

    int item(int item, int what) {
        if (item < 0 || item > 5) {
            return refuse(-1);
        }
        if (what < 0 || what > 3) {
            return refuse(-2);
        }
        World scarce = world.copy();
        scarce.reserves[item] = 0;
        int has = -9;
        int many = 0;
        for (int b = 0; b < world.bids.size(); b++) {
            if ((world.bids.get(b).set >> item & 1) == 1 && world.bids.get(b).on) {
                many++;
                has = (world.winners() >> b & 1) == 1 ? b : has;
                scarce.bids.get(b).on = false;
            }
        }
        int less = world.worth(world.winners()) - scarce.worth(scarce.winners());
        return new int[] {world.reserves[item], has, less, many}[what];
    }

    int rival(int bid, int what) {
        if (noBid(bid)) {
            return refuse(-1);
        }
        if (what < 0 || what > 2) {
            return refuse(-2);
        }
        int rivals = 0;
        for (int b = 0; b < world.bids.size(); b++) {
            boolean meets = (world.bids.get(b).set & world.bids.get(bid).set) != 0;
            rivals |= b != bid && meets && world.bids.get(b).on ? 1 << b : 0;
        }
        int winning = rivals & world.winners();
        int by = world.prices(winning) - world.bids.get(bid).price;
        if ((world.winners() >> bid & 1) == 1 || by < 0) {
            by = 0;
        }
        return new int[] {rivals, winning, by}[what];
    }

    int of(int bits, int what) {
        if (bits < 0) {
            return refuse(-4);
        }
        if (bits > world.everything()) {
            return refuse(-6);
        }
        if (what < 0 || what > 1) {
            return refuse(-2);
        }
        int best = world.winners(bits);
        return what == 0 ? best : world.worth(best);
    }

    int pays(int who, int how) {
        if (noBidder(who)) {
            return refuse(-1);
        }
        if (how < 0 || how > 2) {
            return refuse(-2);
        }
        return world.payments(how)[who];
    }

    int blocks(int how, int what) {
        if (how < 0 || how > 2 || what < 0 || what > 1) {
            return refuse(-2);
        }
        int[] pays = world.payments(how);
        int[] own = world.groupWorths();
        int group = world.blocker(pays, own);
        if (what == 0) {
            return group;
        }
        return group < 0 ? 0 : world.blocksBy(group, pays, own);
    }

    int lifts() {
        return world.lift(world.payments(1));
    }

    int group(int group, int what) {
        if (group < 0) {
            return refuse(-4);
        }
        if (group > 31) {
            return refuse(-6);
        }
        if (what < 0 || what > 4) {
            return refuse(-2);
        }
        int own = world.bitsOf(group);
        int won = 0;
        int pays = 0;
        for (int who = 0; who < 5; who++) {
            won += (group >> who & 1) == 1 ? world.won(who) : 0;
            pays += (group >> who & 1) == 1 ? world.payments(1)[who] : 0;
        }
        return new int[] {world.worth(world.winners(own)), world.winners(own), won, world.harm(own), pays}[what];
    }

    int envy(int one, int other) {
        if (noBidder(one) || noBidder(other) || one == other) {
            return refuse(-1);
        }
        int theirs = world.items(world.winners() & world.bitsOf(1 << other));
        int own = world.bitsOf(1 << one) & world.onBits();
        int most = 0;
        for (int bits = own; bits > 0; bits = bits - 1 & own) {
            boolean within = (world.items(bits) & ~theirs) == 0 && world.disjoint(bits);
            if (within && world.may(world.kinds[one], world.figures[one], bits)) {
                most = Math.max(most, world.prices(bits));
            }
        }
        int[] pays = world.payments(1);
        return Math.max(0, most - pays[other] - (world.won(one) - pays[one]));
    }

    int gain(int who) {
        if (noBidder(who)) {
            return -100000 + refuse(-1);
        }
        int now = world.won(who) - world.payments(1)[who];
        int own = world.bitsOf(1 << who);
        int best = 0;
        // Bidders of their own that are ANY bind nothing: all but this one's kind must still allow it.
        List<Integer> free = new ArrayList<>();
        World split = world.copy();
        split.kinds[who] = 2;
        split.figures[who] = 99;
        for (int bits = 0; bits <= split.everything(); bits++) {
            if (split.outcome(bits)) {
                free.add(bits);
            }
        }
        best = bestOf(split, free, split.everything());
        int then = 0;
        for (int b = 0; b < split.bids.size(); b++) {
            if ((own & best & 1 << b) != 0) {
                int price = split.bids.get(b).price;
                int rest = bestOf(split, free, split.everything() & ~(1 << b));
                then += price - (split.worth(rest) - (split.worth(best) - price));
            }
        }
        return then - now;
    }

    private static int bestOf(World split, List<Integer> free, int some) {
        int best = 0;
        for (int bits : free) {
            if ((bits & ~some) == 0 && split.ahead(bits, best)) {
                best = bits;
            }
        }
        return best;
    }

    int without(int bid) {
        if (noBid(bid)) {
            return refuse(-1);
        }
        World other = world.copy();
        other.bids.get(bid).on = false;
        return other.worth(other.winners());
    }

    int least(int bid) {
        if (noBid(bid)) {
            return refuse(-1);
        }
        World other = world.copy();
        other.bids.get(bid).on = true;
        int least = -9;
        for (int price = 99; price >= 1; price--) {
            other.bids.get(bid).price = price;
            least = (other.winners() >> bid & 1) == 1 ? price : least;
        }
        return least;
    }

    int tight() {
        int tight = 0;
        for (int b = 0; b < world.bids.size(); b++) {
            World other = world.copy();
            other.bids.get(b).price--;
            boolean out = (world.winners() >> b & 1) == 1 && (other.winners() >> b & 1) == 0;
            tight |= out ? 1 << b : 0;
        }
        return tight;
    }

    long missing(int bid, int t, int part) {
        if (noBid(bid)) {
            return refuseLong(-1);
        }
        if (t < 2) {
            return refuseLong(-4);
        }
        if (t > 20) {
            return refuseLong(-6);
        }
        if (part < 0 || part > 1) {
            return refuseLong(-2);
        }
        List<Integer> ranking = world.ranking();
        Ratio sum = new Ratio(0, 1);
        int on = world.onBits();
        for (int come = 0; come <= on; come++) {
            if ((come & ~on) == 0) {
                int first = 0;
                for (int k = ranking.size() - 1; k >= 0; k--) {
                    first = (ranking.get(k) & ~come) == 0 ? ranking.get(k) : first;
                }
                if ((first >> bid & 1) == 1) {
                    Ratio odds = new Ratio(1, 1);
                    for (int b = 0; b < world.bids.size(); b++) {
                        if ((on >> b & 1) == 1) {
                            odds = odds.times((come >> b & 1) == 1 ? new Ratio(t - 1, t) : new Ratio(1, t));
                        }
                    }
                    sum = new Ratio(sum.above().add(odds.above()), odds.below());
                }
            }
        }
        return sum.part(part);
    }

    long mean(int how, int part) {
        if (how < 0 || how > 2 || part < 0 || part > 1) {
            return refuseLong(-2);
        }
        int sum = 0;
        int many = 0;
        int[] pays = world.payments(how);
        for (int who = 0; who < 5; who++) {
            sum += pays[who];
            many += world.won(who) > 0 ? 1 : 0;
        }
        return many == 0 ? part : new Ratio(sum, many).part(part);
    }

    int printed(int i) {
        if (i < -1) {
            return refuse(-4);
        }
        List<String> parts = new ArrayList<>();
        for (int b = 0; b < world.bids.size(); b++) {
            if ((world.winners() >> b & 1) == 1) {
                Bid bid = world.bids.get(b);
                StringBuilder items = new StringBuilder();
                for (char c = 'a'; c <= 'f'; c++) {
                    items.append((bid.set >> c - 'a' & 1) == 1 ? String.valueOf(c) : "");
                }
                parts.add(bid.bidder + ":" + items + "=" + bid.price);
            }
        }
        String all = String.join(";", parts) + "/" + world.worth(world.winners());
        if (i == -1) {
            return all.length();
        }
        return i < all.length() ? all.charAt(i) : -9;
    }

    int whatIs(int who, int what) {
        if (noBidder(who)) {
            return refuse(-1);
        }
        if (what < 0 || what > 1) {
            return refuse(-2);
        }
        int fits = 0;
        for (int v = 0; v < (what == 0 ? 6 : 10); v++) {
            World other = world.copy();
            if (what == 0) {
                other.kinds[who] = v;
            } else {
                other.figures[who] = v;
            }
            fits |= wrong(other.payments(1)) < 0 ? 1 << v : 0;
        }
        return fits;
    }

    private int wrong(int[] pays) {
        for (int i = 0; i < told.size(); i++) {
            if (told.get(i) != pays[i]) {
                return i;
            }
        }
        return -9;
    }

    int row(int v) {
        if (v < 0) {
            return refuse(-4);
        }
        if (v > 99 || told.size() == 5) {
            return refuse(-6);
        }
        told.add(v);
        return told.size();
    }

    int judge(int how) {
        if (how < 0 || how > 2) {
            return refuse(-2);
        }
        int wrong = wrong(world.payments(how));
        told = new ArrayList<>();
        return wrong;
    }

    int clear() {
        int had = told.size();
        told = new ArrayList<>();
        return had;
    }

    int lots(int n, int z, int what) {
        if (n < 1) {
            return refuse(-4);
        }
        if (n > 20) {
            return refuse(-6);
        }
        if (what < 0 || what > 1) {
            return refuse(-2);
        }
        BigInteger whole = BigInteger.ONE.shiftLeft(32);
        BigInteger seed = BigInteger.valueOf(z).mod(whole);
        int sum = 0;
        for (int lot = 0; lot < n; lot++) {
            World other = world.copy();
            for (Bid bid : other.bids) {
                seed = seed.multiply(BigInteger.valueOf(1664525)).add(BigInteger.valueOf(1013904223)).mod(whole);
                int draw = seed.clearBit(31).shiftRight(8).mod(BigInteger.valueOf(99)).intValueExact();
                bid.price = draw + 1;
            }
            if (what == 0) {
                sum += other.worth(other.winners());
            } else {
                for (int pay : other.payments(1)) {
                    sum += pay;
                }
            }
        }
        return sum;
    }

    int image() {
        picture = world.copy();
        return world.bids.size();
    }

    int on() {
        if (picture == null) {
            return refuse(-3);
        }
        world = picture.copy();
        return world.bids.size();
    }

    int count(int what) {
        switch (what) {
            case 0:
                return world.bids.size();
            case 1:
                return world.onBits();
            case 2:
                return world.kept(0);
            case 3: {
                int happy = 0;
                for (int who = 0; who < 5; who++) {
                    happy |= world.won(who) > 0 ? 1 << who : 0;
                }
                return happy;
            }
            case 4:
                return world.prices(world.onBits());
            case 5:
                return told.size();
            case 6:
                return text.length();
            default:
                return what > 10 && what < 17 ? refusals[what - 10] : -9;
        }
    }
}
