/**
 * An auction of six items in which five bidders bid on bundles of them: who wins, what each pays,
 * and what would be otherwise if a bid, a price or a bidder were another.
 */
public final class BundlesOfBids {
    private static final int ITEMS = 6;
    private static final int ALL_ITEMS = 63;
    private static final int BIDDERS = 5;
    private static final int GROUPS = 32;
    private static final int ALL_BIDDERS = 31;
    private static final int MOST_BIDS = 10;
    private static final int ALL_BIDS = 1023;
    private static final int MOST_PRICE = 99;
    private static final int MOST_RESERVE = 9;
    private static final int MOST_FIGURE = 9;
    private static final int MOST_LETTERS = 96;
    private static final int MOST_SIGN = 255;
    private static final int MOST_IN_ROW = 5;
    private static final int MOST_IN_ROW_VALUE = 99;
    private static final int LEAST_ODDS = 2;
    private static final int MOST_ODDS = 20;
    private static final int MOST_LOTS = 20;

    private static final int KINDS = 6;
    private static final int ANY = 0;
    private static final int ONE = 1;
    private static final int SOME = 2;
    private static final int PURSE = 3;
    private static final int SMALL = 4;
    private static final int PROUD = 5;

    private static final int AS_BID = 0;
    private static final int BY_HARM = 1;
    private static final int LIFTED = 2;

    private static final int NOBODY = -1;
    private static final int OTHER = -2;
    private static final int STATE = -3;
    private static final int BELOW = -4;
    private static final int ROOM = -6;
    private static final int NONE = -9;
    private static final long REFUSED_LONG = 4000000000000000000L;
    private static final int REFUSED_GAIN = -100000;
    private static final int FAULT_OF_FORM = -1000;
    private static final int FAULT_OF_SENSE = -2000;

    private final Sale sale = new Sale();
    private final Sale pictured = new Sale();
    private final Sale trial = new Sale();
    private final Outcomes outcomes = new Outcomes();
    private final Bill bill = new Bill();
    private final Search search = new Search();
    private final Script script = new Script();
    private final Print print = new Print();
    private final int[] told = new int[MOST_IN_ROW];
    private final int[] refusals = new int[7];
    private int toldCount = 0;
    private boolean hasPicture = false;

    /** No bids; all bidders are ANY, nothing is kept back. */
    public BundlesOfBids() {
        // The fields are as they must be from the start.
    }

    /** A letter comes: how many there are. */
    public int letter(int c) {
        if (c < 0) {
            return refuse(BELOW);
        }
        if (c > MOST_SIGN || script.isFull()) {
            return refuse(ROOM);
        }
        return script.append(c);
    }

    /** The letters become an auction, or are a fault; either way they are no more. */
    public int auction() {
        int fault = script.parse();
        int answer = fault == NONE ? obeyScript() : FAULT_OF_FORM - fault;
        script.forget();
        return answer;
    }

    /** A bid more: its number. */
    public int bids(int bidder, int items, int price) {
        if (!isBidder(bidder)) {
            return refuse(NOBODY);
        }
        if (items < 1 || price < 1) {
            return refuse(BELOW);
        }
        if (items > ALL_ITEMS || price > MOST_PRICE || sale.isFull()) {
            return refuse(ROOM);
        }
        sale.addBid(bidder, items, price);
        return sale.came - 1;
    }

    /** A bid is off, or on: 1 on, 0 off. */
    public int turns(int bid) {
        if (!sale.hasBid(bid)) {
            return refuse(NOBODY);
        }
        sale.turnOver(bid);
        return bitAt(sale.active, bid);
    }

    /** A bid's new price: the old one. */
    public int price(int bid, int price) {
        if (!sale.hasBid(bid)) {
            return refuse(NOBODY);
        }
        if (price < 1) {
            return refuse(BELOW);
        }
        if (price > MOST_PRICE) {
            return refuse(ROOM);
        }
        int old = sale.priceOf(bid);
        sale.setPrice(bid, price);
        return old;
    }

    /** A bidder's new kind and figure: 10 times the old kind and the old figure. */
    public int kind(int bidder, int kind, int figure) {
        if (!isBidder(bidder)) {
            return refuse(NOBODY);
        }
        if (kind < 0 || kind >= KINDS) {
            return refuse(OTHER);
        }
        if (figure < 0) {
            return refuse(BELOW);
        }
        if (figure > MOST_FIGURE) {
            return refuse(ROOM);
        }
        int old = 10 * sale.kindOf(bidder) + sale.figureOf(bidder);
        sale.setKind(bidder, kind, figure);
        return old;
    }

    /** An item's new reserve: the old one. */
    public int keep(int item, int reserve) {
        if (!isItem(item)) {
            return refuse(NOBODY);
        }
        if (reserve < 0) {
            return refuse(BELOW);
        }
        if (reserve > MOST_RESERVE) {
            return refuse(ROOM);
        }
        int old = sale.reserveOf(item);
        sale.setReserve(item, reserve);
        return old;
    }

    /** Of a bid: bidder, set, price, whether it is on, whether it wins, its place in the order. */
    public int bid(int bid, int what) {
        if (!sale.hasBid(bid)) {
            return refuse(NOBODY);
        }
        switch (what) {
            case 0:
                return sale.bidderOf(bid);
            case 1:
                return sale.setOf(bid);
            case 2:
                return sale.priceOf(bid);
            case 3:
                return bitAt(sale.active, bid);
            case 4:
                return bitAt(winnersOf(sale), bid);
            case 5:
                search.lineUp(sale);
                return search.placeOf(bid);
            default:
                return refuse(OTHER);
        }
    }

    /** Of a bidder: kind, figure, bids, what it won, its harm. */
    public int bidder(int bidder, int what) {
        if (!isBidder(bidder)) {
            return refuse(NOBODY);
        }
        switch (what) {
            case 0:
                return sale.kindOf(bidder);
            case 1:
                return sale.figureOf(bidder);
            case 2:
                return sale.bidsOfGroup(1 << bidder);
            case 3:
                charge(sale);
                return Bill.total(bill.won, 1 << bidder);
            case 4:
                charge(sale);
                return bill.harmBy(sale, outcomes, 1 << bidder);
            default:
                return refuse(OTHER);
        }
    }

    /** Whether a set of bids is an outcome. */
    public int may(int bids) {
        if (bids < 0) {
            return refuse(BELOW);
        }
        if (!areBids(bids)) {
            return refuse(ROOM);
        }
        outcomes.gather(sale);
        return outcomes.has(bids) ? 1 : 0;
    }

    /** The winners: bids, worth, items, how many branches the search for them looks at. */
    public int winners(int what) {
        switch (what) {
            case 0:
                return winnersOf(sale);
            case 1:
                return worthOf(sale);
            case 2:
                return sale.itemsOf(winnersOf(sale));
            case 3:
                return search.branchesOf(sale);
            default:
                return refuse(OTHER);
        }
    }

    /** The k-th of all outcomes, the winners first: bids, worth. */
    public int rank(int k, int what) {
        if (k < 0) {
            return refuse(BELOW);
        }
        if (!isEither(what)) {
            return refuse(OTHER);
        }
        outcomes.gather(sale);
        if (k >= outcomes.size) {
            return NONE;
        }
        return bidsOrWorth(outcomes.ranked(k), what);
    }

    /** Of an item: reserve, the winner that has it, how scarce it is, how many bids that are on have it. */
    public int item(int item, int what) {
        if (!isItem(item)) {
            return refuse(NOBODY);
        }
        switch (what) {
            case 0:
                return sale.reserveOf(item);
            case 1:
                return firstBid(sale.holders(1 << item) & winnersOf(sale));
            case 2:
                return scarcity(item);
            case 3:
                return Integer.bitCount(sale.holders(1 << item));
            default:
                return refuse(OTHER);
        }
    }

    /** Of a bid: its rivals, those that win, what these outbid it by. */
    public int rival(int bid, int what) {
        if (!sale.hasBid(bid)) {
            return refuse(NOBODY);
        }
        int rivals = sale.holders(sale.setOf(bid)) & ~(1 << bid);
        switch (what) {
            case 0:
                return rivals;
            case 1:
                return rivals & winnersOf(sale);
            case 2:
                // One of the winners has no rival among them: then this is below 0, too.
                return Math.max(0, sale.pricesOf(rivals & winnersOf(sale)) - sale.priceOf(bid));
            default:
                return refuse(OTHER);
        }
    }

    /** The winners of some bids alone: bids, worth. */
    public int of(int bids, int what) {
        if (bids < 0) {
            return refuse(BELOW);
        }
        if (!areBids(bids)) {
            return refuse(ROOM);
        }
        if (!isEither(what)) {
            return refuse(OTHER);
        }
        outcomes.gather(sale);
        return bidsOrWorth(outcomes.first(bids), what);
    }

    /** What a bidder pays. */
    public int pays(int bidder, int how) {
        if (!isBidder(bidder)) {
            return refuse(NOBODY);
        }
        if (!isHow(how)) {
            return refuse(OTHER);
        }
        chargeAndLift();
        return bill.payment(how, bidder);
    }

    /** Which group blocks payments by most, and by how much. */
    public int blocks(int how, int what) {
        if (!isHow(how) || !isEither(what)) {
            return refuse(OTHER);
        }
        chargeAndLift();
        int[] payments = bill.payments(how);
        int group = bill.blocker(payments);
        if (what == 0) {
            return group;
        }
        return group == NONE ? 0 : bill.excess(payments, group);
    }

    /** How often payments are lifted. */
    public int lifts() {
        chargeAndLift();
        return bill.liftCount;
    }

    /** Of a group: worth and bids of its own winners, what it won, its harm, its payments by harm. */
    public int group(int group, int what) {
        if (group < 0) {
            return refuse(BELOW);
        }
        if (group >= GROUPS) {
            return refuse(ROOM);
        }
        charge(sale);
        switch (what) {
            case 0:
                return Outcomes.worthIn(outcomes.first(sale.bidsOfGroup(group)));
            case 1:
                return Outcomes.bidsIn(outcomes.first(sale.bidsOfGroup(group)));
            case 2:
                return Bill.total(bill.won, group);
            case 3:
                return bill.harmBy(sale, outcomes, group);
            case 4:
                return Bill.total(bill.byHarm, group);
            default:
                return refuse(OTHER);
        }
    }

    /** By how much one bidder would rather have what another one won, for what that one pays. */
    public int envy(int one, int other) {
        if (!isBidder(one) || !isBidder(other) || one == other) {
            return refuse(NOBODY);
        }
        charge(sale);
        int within = sale.itemsOf(bill.winning & sale.bidsOfGroup(1 << other));
        int wished = sale.bidsOfGroup(1 << one) & ~sale.holders(ALL_ITEMS & ~within);
        int most = outcomes.mostPrices(sale, wished);
        int own = bill.payment(AS_BID, one) - bill.payment(BY_HARM, one);
        return Math.max(0, most - bill.payment(BY_HARM, other) - own);
    }

    /** What a bidder would gain if each of its bids came from a bidder of its own. */
    public int gain(int bidder) {
        if (!isBidder(bidder)) {
            return REFUSED_GAIN + refuse(NOBODY);
        }
        charge(sale);
        int now = bill.payment(AS_BID, bidder) - bill.payment(BY_HARM, bidder);
        return shillSurplus(bidder) - now;
    }

    /** The worth of the winners without a bid. */
    public int without(int bid) {
        if (!sale.hasBid(bid)) {
            return refuse(NOBODY);
        }
        outcomes.gather(sale);
        return Outcomes.worthIn(outcomes.first(ALL_BIDS & ~(1 << bid)));
    }

    /** The least price by which a bid would win. */
    public int least(int bid) {
        if (!sale.hasBid(bid)) {
            return refuse(NOBODY);
        }
        trial.takeFrom(sale);
        trial.active |= 1 << bid;
        // A higher price may lose where a lower one wins (a PURSE), so no price is passed over.
        for (int price = 1; price <= MOST_PRICE; price++) {
            trial.setPrice(bid, price);
            if (bitAt(winnersOf(trial), bid) == 1) {
                return price;
            }
        }
        return NONE;
    }

    /** The winners that a price 1 less would put out of them. */
    public int tight() {
        int winning = winnersOf(sale);
        int out = 0;
        for (int b = 0; b < sale.came; b++) {
            if (bitAt(winning, b) == 1) {
                trial.takeFrom(sale);
                // A price of 1 is tried as 0, which no bid may have but which is 1 less.
                trial.setPrice(b, sale.priceOf(b) - 1);
                out |= (1 << b) & ~winnersOf(trial);
            }
        }
        return out;
    }

    /** How likely a bid wins if each that is on doesn't come with odds 1 in t. */
    public long missing(int bid, int t, int part) {
        if (!sale.hasBid(bid)) {
            return refuseLong(NOBODY);
        }
        if (t < LEAST_ODDS) {
            return refuseLong(BELOW);
        }
        if (t > MOST_ODDS) {
            return refuseLong(ROOM);
        }
        if (!isEither(part)) {
            return refuseLong(OTHER);
        }
        outcomes.gather(sale);
        long above = 0;
        for (int come = 0; come <= ALL_BIDS; come++) {
            boolean canCome = (come & ~sale.active) == 0;
            if (canCome && bitAt(Outcomes.bidsIn(outcomes.first(come)), bid) == 1) {
                above += power(t - 1, Integer.bitCount(come));
            }
        }
        return fraction(above, power(t, Integer.bitCount(sale.active)), part);
    }

    /** All payments by how many bidders won something. */
    public long mean(int how, int part) {
        if (!isHow(how) || !isEither(part)) {
            return refuseLong(OTHER);
        }
        chargeAndLift();
        return fraction(Bill.total(bill.payments(how), ALL_BIDDERS), Integer.bitCount(bill.happy()), part);
    }

    /** The i-th letter of the winners printed. */
    public int printed(int i) {
        if (i < -1) {
            return refuse(BELOW);
        }
        outcomes.gather(sale);
        int key = outcomes.first(ALL_BIDS);
        print.putWinners(sale, Outcomes.bidsIn(key), Outcomes.worthIn(key));
        return i == -1 ? print.length : print.signAt(i);
    }

    /** Of which kinds, or with which figures, a bidder would make the row's payments by harm. */
    public int whatIs(int bidder, int what) {
        if (!isBidder(bidder)) {
            return refuse(NOBODY);
        }
        if (!isEither(what)) {
            return refuse(OTHER);
        }
        trial.takeFrom(sale);
        int choices = what == 0 ? KINDS : MOST_FIGURE + 1;
        int fitting = 0;
        for (int choice = 0; choice < choices; choice++) {
            int kind = what == 0 ? choice : sale.kindOf(bidder);
            int figure = what == 0 ? sale.figureOf(bidder) : choice;
            trial.setKind(bidder, kind, figure);
            charge(trial);
            if (firstWrongTold(BY_HARM) == NONE) {
                fitting |= 1 << choice;
            }
        }
        return fitting;
    }

    /** A number more of the row: how many. */
    public int row(int v) {
        if (v < 0) {
            return refuse(BELOW);
        }
        if (v > MOST_IN_ROW_VALUE || toldCount >= MOST_IN_ROW) {
            return refuse(ROOM);
        }
        told[toldCount] = v;
        toldCount++;
        return toldCount;
    }

    /** The first payment that the row tells wrong. */
    public int judge(int how) {
        if (!isHow(how)) {
            return refuse(OTHER);
        }
        chargeAndLift();
        int wrong = firstWrongTold(how);
        toldCount = 0;
        return wrong;
    }

    /** The row has none then: how many it had. */
    public int clear() {
        int had = toldCount;
        toldCount = 0;
        return had;
    }

    /** Auctions with prices drawn by lot: worth of all winners, or all payments by harm. */
    public int lots(int n, int z, int what) {
        if (n < 1) {
            return refuse(BELOW);
        }
        if (n > MOST_LOTS) {
            return refuse(ROOM);
        }
        if (!isEither(what)) {
            return refuse(OTHER);
        }
        trial.takeFrom(sale);
        int seed = z;
        int sum = 0;
        for (int lot = 0; lot < n; lot++) {
            for (int b = 0; b < trial.came; b++) {
                seed = nextSeed(seed);
                trial.setPrice(b, 1 + drawn(seed, MOST_PRICE));
            }
            charge(trial);
            sum += what == 0 ? bill.worth : Bill.total(bill.byHarm, ALL_BIDDERS);
        }
        return sum;
    }

    /** The image is taken: how many bids came. */
    public int image() {
        pictured.takeFrom(sale);
        hasPicture = true;
        return sale.came;
    }

    /** On from the image: how many bids came. */
    public int on() {
        if (!hasPicture) {
            return refuse(STATE);
        }
        sale.takeFrom(pictured);
        return sale.came;
    }

    /** How many or which there are of several things. */
    public int count(int what) {
        switch (what) {
            case 0:
                return sale.came;
            case 1:
                return sale.active;
            case 2:
                return sale.reservesBut(0);
            case 3:
                charge(sale);
                return bill.happy();
            case 4:
                return sale.pricesOf(sale.active);
            case 5:
                return toldCount;
            case 6:
                return script.size;
            default:
                return what >= 11 && what <= 16 ? refusals[what - 10] : NONE;
        }
    }

    private int refuse(int number) {
        int place = -number;
        if (place >= 0 && place < refusals.length) {
            refusals[place]++;
        }
        return number;
    }

    private long refuseLong(int number) {
        return REFUSED_LONG - refuse(number);
    }

    private static boolean isBidder(int bidder) {
        return bidder >= 0 && bidder < BIDDERS;
    }

    private static boolean isItem(int item) {
        return item >= 0 && item < ITEMS;
    }

    private static boolean isHow(int how) {
        return how >= AS_BID && how <= LIFTED;
    }

    private static boolean isEither(int choice) {
        return choice == 0 || choice == 1;
    }

    private boolean areBids(int bits) {
        return bits < (1 << sale.came);
    }

    private static int bitAt(int bits, int place) {
        return (bits >> place) & 1;
    }

    private static int firstBid(int bits) {
        for (int b = 0; b < MOST_BIDS; b++) {
            if (bitAt(bits, b) == 1) {
                return b;
            }
        }
        return NONE;
    }

    private static int bidsOrWorth(int key, int what) {
        return what == 0 ? Outcomes.bidsIn(key) : Outcomes.worthIn(key);
    }

    private int winnersOf(Sale any) {
        outcomes.gather(any);
        return Outcomes.bidsIn(outcomes.first(ALL_BIDS));
    }

    private int worthOf(Sale any) {
        outcomes.gather(any);
        return Outcomes.worthIn(outcomes.first(ALL_BIDS));
    }

    private void charge(Sale any) {
        outcomes.gather(any);
        bill.charge(any, outcomes);
    }

    private void chargeAndLift() {
        charge(sale);
        bill.lift(sale, outcomes);
    }

    private int obeyScript() {
        trial.takeFrom(sale);
        int wrong = script.obey(trial);
        if (wrong != NONE) {
            return FAULT_OF_SENSE - wrong;
        }
        sale.takeFrom(trial);
        return script.statements;
    }

    private int scarcity(int item) {
        trial.takeFrom(sale);
        trial.active &= ~trial.holders(1 << item);
        trial.setReserve(item, 0);
        return worthOf(sale) - worthOf(trial);
    }

    // Bids of bidders of their own that are ANY are as free of one another as those of one ANY:
    // so the outcomes are those of the bidder as an ANY, and only the harm goes by single bids.
    private int shillSurplus(int bidder) {
        trial.takeFrom(sale);
        trial.setKind(bidder, ANY, 0);
        outcomes.gather(trial);
        int key = outcomes.first(ALL_BIDS);
        int worth = Outcomes.worthIn(key);
        int winning = Outcomes.bidsIn(key) & trial.bidsOfGroup(1 << bidder);
        int surplus = 0;
        for (int b = 0; b < trial.came; b++) {
            if (bitAt(winning, b) == 1) {
                int price = trial.priceOf(b);
                int harm = Outcomes.worthIn(outcomes.first(ALL_BIDS & ~(1 << b))) - (worth - price);
                surplus += price - harm;
            }
        }
        return surplus;
    }

    private int firstWrongTold(int how) {
        for (int b = 0; b < toldCount && b < told.length; b++) {
            if (told[b] != bill.payment(how, b)) {
                return b;
            }
        }
        return NONE;
    }

    private static int nextSeed(int seed) {
        return seed * 1664525 + 1013904223;
    }

    private static int drawn(int seed, int below) {
        return below < 1 ? 0 : (seed & 0x7fffffff) / 256 % below;
    }

    private static long power(long base, int times) {
        long result = 1;
        for (int i = 0; i < times; i++) {
            result *= base;
        }
        return result;
    }

    private static long fraction(long above, long below, int part) {
        if (above == 0 || below == 0) {
            return part;
        }
        long divisor = greatestDivisor(above, below);
        long asked = part == 0 ? above : below;
        return divisor == 0 ? asked : asked / divisor;
    }

    private static long greatestDivisor(long one, long other) {
        long a = one;
        long b = other;
        for (int i = 0; i < 200 && b != 0; i++) {
            long rest = a % b;
            a = b;
            b = rest;
        }
        return a;
    }

    /** What there is to be sold and bid: all that an image holds. */
    private static final class Sale {
        private final int[] bidders = new int[MOST_BIDS];
        private final int[] sets = new int[MOST_BIDS];
        private final int[] prices = new int[MOST_BIDS];
        private final int[] owned = new int[BIDDERS];
        private final int[] kinds = new int[BIDDERS];
        private final int[] figures = new int[BIDDERS];
        private final int[] reserves = new int[ITEMS];
        private int came = 0;
        private int active = 0;

        private void takeFrom(Sale other) {
            System.arraycopy(other.bidders, 0, bidders, 0, MOST_BIDS);
            System.arraycopy(other.sets, 0, sets, 0, MOST_BIDS);
            System.arraycopy(other.prices, 0, prices, 0, MOST_BIDS);
            System.arraycopy(other.owned, 0, owned, 0, BIDDERS);
            System.arraycopy(other.kinds, 0, kinds, 0, BIDDERS);
            System.arraycopy(other.figures, 0, figures, 0, BIDDERS);
            System.arraycopy(other.reserves, 0, reserves, 0, ITEMS);
            came = other.came;
            active = other.active;
        }

        private boolean isFull() {
            return came >= MOST_BIDS;
        }

        private boolean hasBid(int bid) {
            return bid >= 0 && bid < came && bid < MOST_BIDS;
        }

        private int bidderOf(int bid) {
            return hasBid(bid) ? bidders[bid] : NONE;
        }

        private int setOf(int bid) {
            return hasBid(bid) ? sets[bid] : 0;
        }

        private int priceOf(int bid) {
            return hasBid(bid) ? prices[bid] : 0;
        }

        private int kindOf(int bidder) {
            return isBidder(bidder) ? kinds[bidder] : ANY;
        }

        private int figureOf(int bidder) {
            return isBidder(bidder) ? figures[bidder] : 0;
        }

        private int reserveOf(int item) {
            return isItem(item) ? reserves[item] : 0;
        }

        private void addBid(int bidder, int set, int price) {
            if (isFull() || !isBidder(bidder)) {
                return;
            }
            bidders[came] = bidder;
            sets[came] = set;
            prices[came] = price;
            owned[bidder] |= 1 << came;
            active |= 1 << came;
            came++;
        }

        private void turnOver(int bid) {
            if (hasBid(bid)) {
                active ^= 1 << bid;
            }
        }

        private void setPrice(int bid, int price) {
            if (hasBid(bid)) {
                prices[bid] = price;
            }
        }

        private void setKind(int bidder, int kind, int figure) {
            if (isBidder(bidder)) {
                kinds[bidder] = kind;
                figures[bidder] = figure;
            }
        }

        private void setReserve(int item, int reserve) {
            if (isItem(item)) {
                reserves[item] = reserve;
            }
        }

        private int bidsOfGroup(int group) {
            int bits = 0;
            for (int b = 0; b < BIDDERS; b++) {
                if (bitAt(group, b) == 1) {
                    bits |= owned[b];
                }
            }
            return bits;
        }

        private int pricesOf(int bits) {
            int sum = 0;
            for (int b = 0; b < came && b < MOST_BIDS; b++) {
                if ((bits & (1 << b)) != 0) {
                    sum += prices[b];
                }
            }
            return sum;
        }

        private int itemsOf(int bits) {
            int items = 0;
            for (int b = 0; b < came && b < MOST_BIDS; b++) {
                if ((bits & (1 << b)) != 0) {
                    items |= sets[b];
                }
            }
            return items;
        }

        /** The bids that are on and have one of these items. */
        private int holders(int items) {
            int bits = 0;
            for (int b = 0; b < came && b < MOST_BIDS; b++) {
                if ((sets[b] & items) != 0) {
                    bits |= 1 << b;
                }
            }
            return bits & active;
        }

        private int reservesBut(int items) {
            int sum = 0;
            for (int i = 0; i < ITEMS; i++) {
                if (bitAt(items, i) == 0) {
                    sum += reserves[i];
                }
            }
            return sum;
        }

        /** Whether of these bids each bidder may win its own. */
        private boolean allows(int bits) {
            for (int b = 0; b < BIDDERS; b++) {
                if (!mayWin(kinds[b], figures[b], bits & owned[b])) {
                    return false;
                }
            }
            return true;
        }

        private boolean mayWin(int kind, int figure, int own) {
            int held = Integer.bitCount(own);
            switch (kind) {
                case ONE:
                    return held <= 1;
                case SOME:
                    return held <= figure;
                case PURSE:
                    return pricesOf(own) <= 10 * figure;
                case SMALL:
                    return held <= 1 && Integer.bitCount(itemsOf(own)) <= figure;
                case PROUD:
                    return held <= figure && held != 1;
                default:
                    return true;
            }
        }
    }

    /**
     * All outcomes of a sale. Each is a key: first how far its worth is below 1023, then how many bids
     * it has, then the bids as bits; so of two outcomes the one that goes ahead has the smaller key.
     */
    private static final class Outcomes {
        private static final int NO_KEY = 0x7fffffff;
        private static final int WORTH_TOP = 1023;
        private static final int WORTH_SHIFT = 14;
        private static final int COUNT_SHIFT = 10;
        private static final int MOST_SETS = ALL_BIDS + 1;

        private final int[] packs = new int[MOST_SETS];
        private final int[] packItems = new int[MOST_SETS];
        private final int[] packWorths = new int[MOST_SETS];
        private final int[] keys = new int[MOST_SETS];
        private int packCount = 0;
        private int size = 0;

        private static int bidsIn(int key) {
            return key & ALL_BIDS;
        }

        private static int worthIn(int key) {
            return WORTH_TOP - (key >> WORTH_SHIFT);
        }

        private static int keyOf(int bits, int worth) {
            return ((WORTH_TOP - worth) << WORTH_SHIFT) | (Integer.bitCount(bits) << COUNT_SHIFT) | bits;
        }

        private void gather(Sale sale) {
            gatherPacks(sale);
            size = 0;
            for (int p = 0; p < packCount && p < MOST_SETS; p++) {
                if (size < MOST_SETS && sale.allows(packs[p])) {
                    keys[size] = keyOf(packs[p], packWorths[p]);
                    size++;
                }
            }
        }

        // A pack is a set of bids with no item in common: each bid joins all packs that have room for it.
        private void gatherPacks(Sale sale) {
            packCount = 0;
            addPack(0, 0, sale.reservesBut(0));
            for (int b = 0; b < sale.came; b++) {
                if (bitAt(sale.active, b) == 1) {
                    int set = sale.setOf(b);
                    int change = sale.priceOf(b) - sale.reservesBut(~set);
                    int before = packCount;
                    for (int p = 0; p < before && p < MOST_SETS; p++) {
                        if ((packItems[p] & set) == 0) {
                            addPack(packs[p] | (1 << b), packItems[p] | set, packWorths[p] + change);
                        }
                    }
                }
            }
        }

        private void addPack(int bits, int items, int worth) {
            if (packCount < MOST_SETS) {
                packs[packCount] = bits;
                packItems[packCount] = items;
                packWorths[packCount] = worth;
                packCount++;
            }
        }

        private int keyAt(int k) {
            return k >= 0 && k < size && k < MOST_SETS ? keys[k] : NO_KEY;
        }

        private boolean has(int bits) {
            for (int k = 0; k < size; k++) {
                if (bidsIn(keyAt(k)) == bits) {
                    return true;
                }
            }
            return false;
        }

        /** The key of the winners of some bids alone. No bid at all is always an outcome. */
        private int first(int some) {
            int best = NO_KEY;
            for (int k = 0; k < size; k++) {
                int key = keyAt(k);
                if (key < best && (bidsIn(key) & ~some) == 0) {
                    best = key;
                }
            }
            return best;
        }

        private int ranked(int rank) {
            int key = -1;
            for (int r = 0; r <= rank && r < size; r++) {
                key = nextAbove(key);
            }
            return key;
        }

        private int nextAbove(int last) {
            int next = NO_KEY;
            for (int k = 0; k < size; k++) {
                int key = keyAt(k);
                if (key > last && key < next) {
                    next = key;
                }
            }
            return next;
        }

        private int mostPrices(Sale sale, int some) {
            int most = 0;
            for (int k = 0; k < size; k++) {
                int bits = bidsIn(keyAt(k));
                if ((bits & ~some) == 0) {
                    most = Math.max(most, sale.pricesOf(bits));
                }
            }
            return most;
        }
    }

    /** What the bidders won and pay. */
    private static final class Bill {
        // A lift puts at least 1 on payments, and they never come above all prices together.
        private static final int MOST_LIFTS = 100000;

        private final int[] won = new int[BIDDERS];
        private final int[] byHarm = new int[BIDDERS];
        private final int[] lifted = new int[BIDDERS];
        private final int[] groupWorths = new int[GROUPS];
        private int winning = 0;
        private int worth = 0;
        private int unsold = 0;
        private int liftCount = 0;

        private void charge(Sale sale, Outcomes outcomes) {
            int key = outcomes.first(ALL_BIDS);
            winning = Outcomes.bidsIn(key);
            worth = Outcomes.worthIn(key);
            for (int b = 0; b < BIDDERS; b++) {
                won[b] = sale.pricesOf(winning & sale.bidsOfGroup(1 << b));
            }
            for (int b = 0; b < BIDDERS; b++) {
                byHarm[b] = won[b] == 0 ? 0 : harmBy(sale, outcomes, 1 << b);
            }
        }

        private int harmBy(Sale sale, Outcomes outcomes, int group) {
            int others = ALL_BIDS & ~sale.bidsOfGroup(group);
            return Outcomes.worthIn(outcomes.first(others)) - (worth - total(won, group));
        }

        private int happy() {
            int bits = 0;
            for (int b = 0; b < BIDDERS; b++) {
                if (won[b] > 0) {
                    bits |= 1 << b;
                }
            }
            return bits;
        }

        private int[] payments(int how) {
            switch (how) {
                case AS_BID:
                    return won;
                case BY_HARM:
                    return byHarm;
                default:
                    return lifted;
            }
        }

        private int payment(int how, int bidder) {
            return isBidder(bidder) ? payments(how)[bidder] : 0;
        }

        private static int total(int[] amounts, int group) {
            int sum = 0;
            for (int b = 0; b < amounts.length; b++) {
                sum += bitAt(group, b) * amounts[b];
            }
            return sum;
        }

        private void lift(Sale sale, Outcomes outcomes) {
            unsold = sale.reservesBut(sale.itemsOf(winning));
            for (int g = 0; g < GROUPS; g++) {
                groupWorths[g] = Outcomes.worthIn(outcomes.first(sale.bidsOfGroup(g)));
            }
            System.arraycopy(byHarm, 0, lifted, 0, BIDDERS);
            liftCount = 0;
            int group = blocker(lifted);
            while (group != NONE && liftCount < MOST_LIFTS) {
                putOnOthers(group, excess(lifted, group));
                liftCount++;
                group = blocker(lifted);
            }
        }

        private void putOnOthers(int group, int amount) {
            int rest = amount;
            for (int b = 0; b < BIDDERS; b++) {
                if (bitAt(group, b) == 0) {
                    int more = Math.min(rest, won[b] - lifted[b]);
                    lifted[b] += more;
                    rest -= more;
                }
            }
        }

        /** By how much a group would be better off, with the seller, than all are by these payments. */
        private int excess(int[] payments, int group) {
            if (group < 0 || group >= GROUPS) {
                return 0;
            }
            int kept = total(won, group) - total(payments, group);
            return groupWorths[group] - total(payments, ALL_BIDDERS) - kept - unsold;
        }

        private int blocker(int[] payments) {
            int by = 0;
            int most = NONE;
            for (int g = 0; g < GROUPS; g++) {
                if (excess(payments, g) > by) {
                    by = excess(payments, g);
                    most = g;
                }
            }
            return most;
        }
    }

    /** The search branch by branch: it tells the order, and how many branches are looked at. */
    private static final class Search {
        // Prices divided by 1 .. 6 items are whole numbers of sixtieths.
        private static final int WHOLE = 60;

        private final int[] shares = new int[MOST_BIDS];
        private final int[] order = new int[MOST_BIDS];
        private int length = 0;
        private int looked = 0;
        private int found = 0;

        private void lineUp(Sale sale) {
            length = 0;
            for (int b = 0; b < sale.came && b < MOST_BIDS; b++) {
                int items = Integer.bitCount(sale.setOf(b));
                shares[b] = items == 0 ? 0 : WHOLE * sale.priceOf(b) / items;
                if (bitAt(sale.active, b) == 1) {
                    insert(b);
                }
            }
        }

        // Bids come by their numbers: one goes ahead of those with a smaller share, not of alike ones.
        private void insert(int bid) {
            if (length >= MOST_BIDS) {
                return;
            }
            int place = length;
            while (place > 0 && shareOf(order[place - 1]) < shareOf(bid)) {
                order[place] = order[place - 1];
                place--;
            }
            order[place] = bid;
            length++;
        }

        private int bidAt(int place) {
            return place >= 0 && place < length && place < MOST_BIDS ? order[place] : NONE;
        }

        private int shareOf(int bid) {
            return bid >= 0 && bid < MOST_BIDS ? shares[bid] : 0;
        }

        private int placeOf(int bid) {
            for (int place = 0; place < length; place++) {
                if (bidAt(place) == bid) {
                    return place;
                }
            }
            return NONE;
        }

        private int branchesOf(Sale sale) {
            lineUp(sale);
            looked = 0;
            found = 0;
            look(this, sale, 0, 0);
            return looked;
        }

        private static void look(Search search, Sale sale, int place, int taken) {
            if (place < 0 || place > MOST_BIDS) {
                return;
            }
            search.looked++;
            if (search.bound(sale, place, taken) < search.found) {
                return;
            }
            if (place >= search.length) {
                search.find(sale, taken);
                return;
            }
            int next = search.bidAt(place);
            if ((sale.setOf(next) & sale.itemsOf(taken)) == 0) {
                look(search, sale, place + 1, taken | (1 << next));
            }
            look(search, sale, place + 1, taken);
        }

        private void find(Sale sale, int taken) {
            if (sale.allows(taken)) {
                int worth = sale.pricesOf(taken) + sale.reservesBut(sale.itemsOf(taken));
                found = Math.max(found, WHOLE * worth);
            }
        }

        private int bound(Sale sale, int place, int taken) {
            int items = sale.itemsOf(taken);
            int sum = WHOLE * sale.pricesOf(taken);
            for (int i = 0; i < ITEMS; i++) {
                if (bitAt(items, i) == 0) {
                    sum += mostFor(sale, place, i);
                }
            }
            return sum;
        }

        private int mostFor(Sale sale, int place, int item) {
            int most = WHOLE * sale.reserveOf(item);
            for (int p = place; p < length; p++) {
                int bid = bidAt(p);
                if (bitAt(sale.setOf(bid), item) == 1) {
                    most = Math.max(most, shareOf(bid));
                }
            }
            return most;
        }
    }

    /** The letters, and the statements that they are. */
    private static final class Script {
        private static final int NO_WORD = -1;
        private static final int WORD_BID = 0;
        private static final int WORD_OFF = 1;
        private static final int WORD_KIND = 2;
        private static final int WORD_KEEP = 3;
        private static final int WORD_PRICE = 4;
        private static final int NO_SET = -1;
        // The shortest statement, an "off", has 6 letters.
        private static final int MOST_STATEMENTS = 16;

        private final int[] letters = new int[MOST_LETTERS];
        private final int[] starts = new int[MOST_STATEMENTS];
        private final int[] words = new int[MOST_STATEMENTS];
        private final int[] firsts = new int[MOST_STATEMENTS];
        private final int[] seconds = new int[MOST_STATEMENTS];
        private final int[] thirds = new int[MOST_STATEMENTS];
        private int size = 0;
        private int place = 0;
        private int fault = NONE;
        private int statements = 0;

        private boolean isFull() {
            return size >= MOST_LETTERS;
        }

        private int append(int c) {
            if (!isFull()) {
                letters[size] = c;
                size++;
            }
            return size;
        }

        private void forget() {
            size = 0;
        }

        /** The place of the first letter with which no auction can go on, or NONE. */
        private int parse() {
            place = 0;
            fault = NONE;
            statements = 0;
            // One statement is read even of no letters: an auction has at least one.
            readStatement();
            for (int i = 0; i < MOST_STATEMENTS && fault == NONE && place < size; i++) {
                readStatement();
            }
            return fault;
        }

        private void readStatement() {
            int start = place;
            int word = readWord();
            readSign(' ');
            int first = word == WORD_KEEP ? readItem() : readNumber();
            int second = 0;
            int third = 0;
            if (word != WORD_OFF) {
                readSign(' ');
                second = word == WORD_BID ? readSet() : readNumber();
            }
            if (word == WORD_BID || word == WORD_KIND) {
                readSign(' ');
                third = readNumber();
            }
            readSign(';');
            if (fault == NONE && statements < MOST_STATEMENTS) {
                starts[statements] = start;
                words[statements] = word;
                firsts[statements] = first;
                seconds[statements] = second;
                thirds[statements] = third;
                statements++;
            }
        }

        private int signHere() {
            return place >= 0 && place < size && place < MOST_LETTERS ? letters[place] : NONE;
        }

        private static boolean isSmall(int sign) {
            return sign >= 'a' && sign <= 'z';
        }

        private static boolean isDigit(int sign) {
            return sign >= '0' && sign <= '9';
        }

        private void noteFault(int where) {
            if (fault == NONE) {
                fault = where;
            }
        }

        private void readSign(int sign) {
            if (fault != NONE) {
                return;
            }
            if (signHere() == sign) {
                place++;
            } else {
                noteFault(place);
            }
        }

        private int readWord() {
            int start = place;
            for (int i = 0; i < MOST_LETTERS && isSmall(signHere()); i++) {
                place++;
            }
            int word = wordFrom(start, place);
            if (word == NO_WORD) {
                noteFault(start);
            }
            return word;
        }

        private int wordFrom(int start, int end) {
            if (spells("bid", start, end)) {
                return WORD_BID;
            }
            if (spells("off", start, end)) {
                return WORD_OFF;
            }
            if (spells("kind", start, end)) {
                return WORD_KIND;
            }
            if (spells("keep", start, end)) {
                return WORD_KEEP;
            }
            return spells("price", start, end) ? WORD_PRICE : NO_WORD;
        }

        private boolean spells(String word, int start, int end) {
            if (start < 0 || end > MOST_LETTERS || end - start != word.length()) {
                return false;
            }
            for (int i = 0; i < word.length(); i++) {
                if (letters[start + i] != word.charAt(i)) {
                    return false;
                }
            }
            return true;
        }

        private int readNumber() {
            if (fault != NONE) {
                return 0;
            }
            if (!isDigit(signHere())) {
                noteFault(place);
            }
            int value = 0;
            for (int i = 0; i < 2 && isDigit(signHere()); i++) {
                value = 10 * value + signHere() - '0';
                place++;
            }
            return value;
        }

        private int readItem() {
            if (fault != NONE) {
                return 0;
            }
            if (!isSmall(signHere())) {
                noteFault(place);
                return 0;
            }
            int item = signHere() - 'a';
            place++;
            return item;
        }

        /** The items as bits; NO_SET if one is told twice or is none. */
        private int readSet() {
            int set = (1 << readItem()) & ALL_ITEMS;
            boolean right = set != 0;
            for (int i = 0; i < MOST_LETTERS && fault == NONE && isSmall(signHere()); i++) {
                int bit = (1 << readItem()) & ALL_ITEMS & ~set;
                right = right && bit != 0;
                set |= bit;
            }
            return right ? set : NO_SET;
        }

        /** Does to the sale what is told: where the first statement begins that can't be done, or NONE. */
        private int obey(Sale sale) {
            for (int s = 0; s < statements && s < MOST_STATEMENTS; s++) {
                if (!isRight(sale, s)) {
                    return starts[s];
                }
                carryOut(sale, words[s], firsts[s], seconds[s], thirds[s]);
            }
            return NONE;
        }

        private boolean isRight(Sale sale, int s) {
            if (s < 0 || s >= MOST_STATEMENTS) {
                return false;
            }
            switch (words[s]) {
                case WORD_BID:
                    return isBidder(firsts[s]) && seconds[s] != NO_SET && thirds[s] > 0 && !sale.isFull();
                case WORD_OFF:
                    return sale.hasBid(firsts[s]);
                case WORD_KIND:
                    return isBidder(firsts[s]) && seconds[s] < KINDS && thirds[s] <= MOST_FIGURE;
                case WORD_KEEP:
                    return isItem(firsts[s]) && seconds[s] <= MOST_RESERVE;
                default:
                    return sale.hasBid(firsts[s]) && seconds[s] > 0;
            }
        }

        private static void carryOut(Sale sale, int word, int first, int second, int third) {
            switch (word) {
                case WORD_BID:
                    sale.addBid(first, second, third);
                    break;
                case WORD_OFF:
                    sale.turnOver(first);
                    break;
                case WORD_KIND:
                    sale.setKind(first, second, third);
                    break;
                case WORD_KEEP:
                    sale.setReserve(first, second);
                    break;
                default:
                    sale.setPrice(first, second);
                    break;
            }
        }
    }

    /** The winners as letters. */
    private static final class Print {
        // Six winners of one item each take 40 letters with what stands between, the worth 4 more.
        private static final int MOST_SIGNS = 64;

        private final int[] signs = new int[MOST_SIGNS];
        private int length = 0;

        private int signAt(int i) {
            return i >= 0 && i < length && i < MOST_SIGNS ? signs[i] : NONE;
        }

        private void putWinners(Sale sale, int winning, int worth) {
            length = 0;
            for (int b = 0; b < sale.came; b++) {
                if (bitAt(winning, b) == 1) {
                    if (length > 0) {
                        put(';');
                    }
                    putBid(sale, b);
                }
            }
            put('/');
            putNumber(worth);
        }

        private void putBid(Sale sale, int bid) {
            putNumber(sale.bidderOf(bid));
            put(':');
            for (int i = 0; i < ITEMS; i++) {
                if (bitAt(sale.setOf(bid), i) == 1) {
                    put('a' + i);
                }
            }
            put('=');
            putNumber(sale.priceOf(bid));
        }

        private void putNumber(int number) {
            if (number >= 100) {
                put('0' + number / 100);
            }
            if (number >= 10) {
                put('0' + number / 10 % 10);
            }
            put('0' + number % 10);
        }

        private void put(int sign) {
            if (length < MOST_SIGNS) {
                signs[length] = sign;
                length++;
            }
        }
    }
}
