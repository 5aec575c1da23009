/**
 * Promise by promise, each sentence of the document that names an edge: what a BIDDER may just win and just
 * not, the least and the greatest of each number, an empty sale and a full one, what turns over, what is
 * above 0 by 1. Refusals stand in RefusalsTest, texts in TextEdgesTest.
 */
public final class EdgesTest {
    private static final Checks CHECKS = new Checks();
    private static final int LEAST_INT = Integer.MIN_VALUE;
    private static final int MOST_INT = Integer.MAX_VALUE;
    private static final String SINGLES = "bid 0 a 10;bid 1 b 10;bid 2 c 10;bid 3 d 10;bid 4 e 10;bid 0 f 10;";

    public static void main(String[] args) {
        nothingAtFirst();
        emptySale();
        fullSale();
        letters();
        bids();
        turns();
        price();
        kindOne();
        kindSome();
        kindPurse();
        kindSmall();
        kindProud();
        kindIsOfItsBidder();
        keep();
        bidOrder();
        bidder();
        may();
        winners();
        looked();
        rank();
        item();
        rival();
        of();
        pays();
        blocks();
        lifts();
        group();
        envy();
        gain();
        without();
        least();
        tight();
        missing();
        mean();
        printed();
        whatIs();
        row();
        judge();
        clear();
        lotsDraws();
        lotsSums();
        image();
        count();
        manyCalls();
        CHECKS.end("EdgesTest");
    }

    private static void part(String name) {
        CHECKS.part(name);
    }

    private static void due(String call, long got, long want) {
        CHECKS.due(call, got, want);
    }

    private static void nothingAtFirst() {
        part("Promise 1: no BIDS; all BIDDERS ANY, nothing is kept back");
        BundlesOfBids x = new BundlesOfBids();
        due("no BIDS", x.count(0), 0);
        due("none ON", x.count(1), 0);
        due("no BID 0", x.bid(0, 0), -1);
        for (int who = 0; who < 5; who++) {
            due("KIND and FIGURE of " + who, x.kind(who, 0, 0), 0);
        }
        for (int i = 0; i < 6; i++) {
            due("RESERVE of " + i, x.keep(i, 0), 0);
        }
        due("no letters", x.letter(0), 1);
        due("no ROW", x.row(0), 1);
        due("no image", x.on(), -3);
        due("a first BID", x.bids(4, 63, 99), 0);
        BundlesOfBids y = new BundlesOfBids();
        due("another object has none of these", y.count(0) + y.count(5) + y.count(6) + y.count(13), 0);
    }

    private static void emptySale() {
        part("an empty sale");
        BundlesOfBids x = new BundlesOfBids();
        due("clear()", x.clear(), 0);
        due("image()", x.image(), 0);
        due("on()", x.on(), 0);
        due("tight()", x.tight(), 0);
        due("lifts()", x.lifts(), 0);
        due("may(0)", x.may(0), 1);
        due("of(0,0)", x.of(0, 0), 0);
        due("of(0,1)", x.of(0, 1), 0);
        for (int how = 0; how < 3; how++) {
            due("judge", x.judge(how), -9);
            due("blocks", x.blocks(how, 0), -9);
            due("blocks by", x.blocks(how, 1), 0);
            CHECKS.fraction("mean", x.mean(how, 0), x.mean(how, 1), 0, 1);
            for (int who = 0; who < 5; who++) {
                due("pays", x.pays(who, how), 0);
            }
        }
        for (int group = 0; group < 32; group++) {
            for (int what = 0; what < 5; what++) {
                due("group(" + group + "," + what + ")", x.group(group, what), 0);
            }
        }
        for (int one = 0; one < 5; one++) {
            for (int other = 0; other < 5; other++) {
                due("envy(" + one + "," + other + ")", x.envy(one, other), one == other ? -1 : 0);
            }
            due("gain(" + one + ")", x.gain(one), 0);
        }
        part("a sale of nothing but what is kept");
        for (int i = 0; i < 6; i++) {
            x.keep(i, 9);
        }
        due("WORTH", x.winners(1), 54);
        due("LOOKED", x.winners(3), 1);
        due("rank(0,1)", x.rank(0, 1), 54);
        due("group(0,0)", x.group(0, 0), 54);
        due("group(31,3)", x.group(31, 3), 0);
        due("blocks(1,0)", x.blocks(1, 0), -9);
        due("lots(20,0,0)", x.lots(20, 0, 0), 1080);
        due("lots(20,0,1)", x.lots(20, 0, 1), 0);
        due("printed(-1)", x.printed(-1), 3);
        due("printed(0)", x.printed(0), '/');
        due("printed(1)", x.printed(1), '5');
        due("printed(2)", x.printed(2), '4');
        due("printed(3)", x.printed(3), -9);
    }

    /** All that can be asked of ten BIDS, as the model answers it. */
    private static void fullSale() {
        part("a full sale");
        String[] asks = {"bid 9 5", "bidder 4 4", "winners 3 0", "item 5 3", "rival 9 2", "pays 4 2", "blocks 2 1",
            "lifts 0 0", "envy 4 4", "gain 4 0", "without 9 0", "least 9 0", "tight 0 0", "mean 2 1", "count 17 0"};
        for (String ask : asks) {
            String[] words = ask.split(" ");
            BundlesOfBids x = new BundlesOfBids();
            Model model = new Model();
            int[][] sale = {{0, 1, 40}, {1, 2, 30}, {2, 12, 55}, {3, 48, 70}, {4, 63, 99}, {0, 6, 61}, {1, 1, 35},
                {2, 56, 88}, {3, 4, 1}, {4, 32, 99}};
            for (int[] bid : sale) {
                due("bids", x.bids(bid[0], bid[1], bid[2]), model.bids(bid[0], bid[1], bid[2]));
            }
            for (int who = 1; who < 5; who++) {
                due("kind", x.kind(who, 6 - who, 4), model.kind(who, 6 - who, 4));
                due("keep", x.keep(who, 9), model.keep(who, 9));
            }
            for (int p = 0; p <= Integer.parseInt(words[1]); p++) {
                for (int q = 0; q <= Integer.parseInt(words[2]); q++) {
                    due(words[0] + "(" + p + "," + q + ")", Calls.of(x, words[0], p, q, 0),
                        Calls.of(model, words[0], p, q, 0));
                }
            }
        }
    }

    private static void letters() {
        part("Promise 2: a letter (0 .. 255)");
        BundlesOfBids x = new BundlesOfBids();
        for (int c = 0; c <= 255; c++) {
            if (c == 96 || c == 192) {
                due("no room", x.letter(c), -6);
                CHECKS.holds("no auction", x.auction() <= -1000);
            }
            due("letter(" + c + ")", x.letter(c), c % 96 + 1);
        }
        due("count(6)", x.count(6), 64);
        due("count(14)", x.count(14), 0);
        due("count(16)", x.count(16), 2);
    }

    private static void bids() {
        part("Promise 4: BIDS (10 at most): a BIDDER, a SET (not none), a PRICE (1 .. 99); ON at first");
        BundlesOfBids x = new BundlesOfBids();
        int[] bidders = {0, 4, 0, 1, 2, 3, 4, 0, 1, 2};
        int[] sets = {1, 63, 62, 2, 4, 8, 16, 32, 3, 33};
        int[] prices = {1, 99, 2, 98, 50, 10, 9, 11, 90, 49};
        for (int b = 0; b < 10; b++) {
            due("BID " + b, x.bids(bidders[b], sets[b], prices[b]), b);
            due("count(0)", x.count(0), b + 1);
            due("count(1)", x.count(1), (2 << b) - 1);
        }
        due("an eleventh", x.bids(0, 1, 1), -6);
        due("an eleventh once more", x.bids(4, 63, 99), -6);
        due("BIDS stay ten", x.count(0), 10);
        for (int b = 0; b < 10; b++) {
            due("BIDDER", x.bid(b, 0), bidders[b]);
            due("SET", x.bid(b, 1), sets[b]);
            due("PRICE", x.bid(b, 2), prices[b]);
            due("ON", x.bid(b, 3), 1);
        }
        due("no BID 10", x.bid(10, 0), -1);
        x.turns(0);
        due("a BID that is off takes room, too", x.bids(0, 1, 1), -6);
    }

    private static void turns() {
        part("Promise 5: it is off, or ON");
        BundlesOfBids x = new BundlesOfBids();
        due("no BIDS", x.turns(0), -1);
        for (int b = 0; b < 10; b++) {
            x.bids(b % 5, 1, 5);
        }
        for (int b = 0; b < 10; b++) {
            due("off", x.turns(b), 0);
            due("count(1)", x.count(1), 1023 & ~(1 << b));
            due("ON", x.turns(b), 1);
            due("count(1)", x.count(1), 1023);
        }
        due("turns(10)", x.turns(10), -1);
        for (int b = 0; b < 10; b++) {
            x.turns(b);
        }
        due("all off", x.count(1), 0);
        due("count(4)", x.count(4), 0);
        due("THE WINNERS", x.winners(0), 0);
        due("LOOKED", x.winners(3), 1);
        due("OUTCOMES", x.rank(1, 0), -9);
        due("off BIDS stay", x.count(0), 10);
    }

    private static void price() {
        part("Promise 6: its PRICE (1 .. 99): the old");
        BundlesOfBids x = Sales.told("bid 0 a 7;bid 1 a 8;");
        due("1", x.price(0, 1), 7);
        due("99", x.price(0, 99), 1);
        due("0", x.price(0, 0), -4);
        due("100", x.price(0, 100), -6);
        due("the same", x.price(0, 99), 99);
        due("the other one's stays", x.price(1, 8), 8);
        x.turns(0);
        due("of one that is off", x.price(0, 98), 99);
        due("it stays off", x.bid(0, 3), 0);
    }

    /** Six BIDS of bidder 0, each of one ITEM, for 15. */
    private static BundlesOfBids sixOfOne() {
        BundlesOfBids x = new BundlesOfBids();
        for (int i = 0; i < 6; i++) {
            x.bids(0, 1 << i, 15);
        }
        return x;
    }

    private static void kindOne() {
        part("Promise 7: ONE one at most, ANY all");
        BundlesOfBids x = sixOfOne();
        due("ANY all", x.may(63), 1);
        for (int figure = 0; figure <= 9; figure++) {
            x.kind(0, 1, figure);
            for (int held = 0; held <= 6; held++) {
                due("ONE of figure " + figure + " has " + held, x.may((1 << held) - 1), held <= 1 ? 1 : 0);
            }
            x.kind(0, 0, figure);
            due("ANY of figure " + figure + " has all", x.may(63), 1);
        }
    }

    private static void kindSome() {
        part("Promise 7: SOME FIGURE at most");
        BundlesOfBids x = sixOfOne();
        for (int figure = 0; figure <= 9; figure++) {
            x.kind(0, 2, figure);
            for (int held = 0; held <= 6; held++) {
                due("SOME of " + figure + " has " + held, x.may((1 << held) - 1), held <= figure ? 1 : 0);
            }
            due("THE WINNERS", x.winners(1), 15 * Math.min(6, figure));
        }
    }

    private static void kindPurse() {
        part("Promise 7: PURSE those with PRICES of 10 times FIGURE at most, together");
        BundlesOfBids x = sixOfOne();
        for (int figure = 0; figure <= 9; figure++) {
            x.kind(0, 3, figure);
            for (int held = 0; held <= 6; held++) {
                due("PURSE of " + figure + " has " + held, x.may((1 << held) - 1), 15 * held <= 10 * figure ? 1 : 0);
            }
        }
        x.kind(0, 3, 3);
        due("30 of 30", x.may(3), 1);
        x.price(0, 16);
        due("31 of 30", x.may(3), 0);
        x.price(0, 14);
        due("29 of 30", x.may(3), 1);
        x.kind(0, 3, 9);
        due("89 of 90", x.may(63), 1);
        x.price(0, 16);
        due("91 of 90", x.may(63), 0);
        BundlesOfBids one = Sales.told("bid 0 a 90;kind 0 3 9;");
        due("one of 90", one.may(1), 1);
        one.price(0, 91);
        due("one of 91", one.may(1), 0);
        one.price(0, 1);
        one.kind(0, 3, 0);
        due("an empty PURSE has none", one.may(0), 1);
        due("nor one of 1", one.may(1), 0);
    }

    private static void kindSmall() {
        part("Promise 7: SMALL as a ONE, and only one whose SET has FIGURE ITEMS or fewer");
        BundlesOfBids x = new BundlesOfBids();
        for (int items = 1; items <= 6; items++) {
            x.bids(0, (1 << items) - 1, 5);
        }
        x.bids(0, 32, 5);
        for (int figure = 0; figure <= 9; figure++) {
            x.kind(0, 4, figure);
            due("none", x.may(0), 1);
            for (int items = 1; items <= 6; items++) {
                due("SMALL of " + figure + " has " + items + " ITEMS", x.may(1 << items - 1), items <= figure ? 1 : 0);
            }
            due("two of one ITEM each", x.may(65), 0);
        }
    }

    private static void kindProud() {
        part("Promise 7: PROUD as a SOME, and none or 2 or more");
        BundlesOfBids x = sixOfOne();
        for (int figure = 0; figure <= 9; figure++) {
            x.kind(0, 5, figure);
            for (int held = 0; held <= 6; held++) {
                boolean may = held == 0 || held >= 2 && held <= figure;
                due("PROUD of " + figure + " has " + held, x.may((1 << held) - 1), may ? 1 : 0);
            }
        }
    }

    private static void kindIsOfItsBidder() {
        part("Promise 7: of each BIDDER");
        for (int who = 0; who < 5; who++) {
            BundlesOfBids x = new BundlesOfBids();
            for (int other = 0; other < 5; other++) {
                x.bids(other, 1 << other, 10);
            }
            x.bids(who, 32, 10);
            due("ANY", x.winners(0), 63);
            due("ONE", x.kind(who, 1, 0), 0);
            due("THE WINNERS: its second one is not among them", x.winners(0), 31);
            due("SOME of 0", x.kind(who, 2, 0), 10);
            due("THE WINNERS: none of its own", x.winners(0), 31 & ~(1 << who));
            due("the greatest", x.kind(who, 5, 9), 20);
            due("the KIND and the FIGURE", x.kind(who, 0, 0), 59);
            due("THE WINNERS", x.winners(0), 63);
        }
    }

    private static void keep() {
        part("Promise 8: RESERVE (0 .. 9)");
        BundlesOfBids x = new BundlesOfBids();
        for (int i = 0; i < 6; i++) {
            due("the least", x.keep(i, 0), 0);
            due("the most", x.keep(i, 9), 0);
            due("one above", x.keep(i, 10), -6);
            due("one below", x.keep(i, -1), -4);
            due("the old", x.keep(i, 9), 9);
            due("count(2)", x.count(2), 9 * (i + 1));
        }
        x.bids(0, 1, 9);
        due("a PRICE as its RESERVE: fewer BIDS", x.winners(0), 0);
        x.price(0, 10);
        due("a PRICE of 1 more", x.winners(0), 1);
        due("WORTH", x.winners(1), 55);
        x.bids(1, 63, 54);
        due("54 for all", x.winners(0), 1);
        x.price(1, 55);
        due("55 for all: as much, less bits", x.winners(0), 1);
        x.price(1, 56);
        due("56 for all", x.winners(0), 2);
        x.turns(0);
        x.price(1, 54);
        due("54 for what is kept for 54", x.winners(0), 0);
    }

    private static void bidOrder() {
        part("Promise 9: THE ORDER: as fractions, of alike ones by numbers; -9 off");
        BundlesOfBids x = Sales.told("bid 0 ab 33;bid 0 abc 49;bid 0 abc 50;");
        due("16 and a half", x.bid(0, 5), 1);
        due("16 and a third", x.bid(1, 5), 2);
        due("16 and two thirds", x.bid(2, 5), 0);
        BundlesOfBids alike = new BundlesOfBids();
        int[] order = {5, 4, 3, 2, 1, 0};
        for (int items : order) {
            alike.bids(0, (2 << items) - 1, 16 * (items + 1));
        }
        for (int b = 0; b < 6; b++) {
            due("16 each: place of " + b, alike.bid(b, 5), b);
        }
        alike.price(3, 47);
        due("a third less than 48", alike.bid(3, 5), 5);
        alike.price(3, 49);
        due("a third more", alike.bid(3, 5), 0);
        alike.turns(3);
        due("off", alike.bid(3, 5), -9);
        due("those behind come up", alike.bid(5, 5), 4);
        BundlesOfBids ten = new BundlesOfBids();
        for (int b = 0; b < 10; b++) {
            ten.bids(0, 1, 90 + b);
        }
        for (int b = 0; b < 10; b++) {
            due("of ten the last is first", ten.bid(b, 5), 9 - b);
        }
        due("the last one WON", ten.bid(9, 4), 1);
        due("the first one didn't", ten.bid(0, 4), 0);
    }

    private static void bidder() {
        part("Promise 10: its BIDS (off ones, too), WON, HARM");
        BundlesOfBids x = new BundlesOfBids();
        for (int b = 0; b < 10; b++) {
            x.bids(b < 5 ? 0 : 4, 1 << b % 5, b < 5 ? 99 : 98);
        }
        due("the first half", x.bidder(0, 2), 31);
        due("the other half", x.bidder(4, 2), 992);
        due("none", x.bidder(2, 2), 0);
        due("WON all", x.bidder(0, 3), 495);
        due("HARM", x.bidder(0, 4), 490);
        due("WON nothing", x.bidder(4, 3), 0);
        due("no HARM", x.bidder(4, 4), 0);
        for (int b = 0; b < 10; b++) {
            x.turns(b);
        }
        due("off ones, too", x.bidder(0, 2), 31);
        due("WON nothing", x.bidder(0, 3), 0);
    }

    private static void may() {
        part("Promise 11: -4 below 0; -6 above all BIDS that came");
        BundlesOfBids x = new BundlesOfBids();
        for (int came = 0; came <= 10; came++) {
            int all = (1 << came) - 1;
            due("all of " + came, x.may(all), came <= 1 ? 1 : 0);
            due("above all of " + came, x.may(all + 1), -6);
            x.bids(came % 5, 1, 1);
        }
        for (int b = 0; b < 10; b++) {
            due("one alone", x.may(1 << b), 1);
            due("two with an ITEM in common", x.may(1 << b | 1 << (b + 1) % 10), 0);
            x.turns(b);
            due("one that is off", x.may(1 << b), 0);
        }
        due("none", x.may(0), 1);
        due("all that came, off ones, too", x.may(1023), 0);
    }

    private static void winners() {
        part("Promise 12: most WORTH, of several least BIDS, of several the least as bits");
        BundlesOfBids x = Sales.told("bid 0 f 99;bid 1 e 99;bid 2 d 99;bid 3 c 99;bid 4 b 99;bid 0 a 99;");
        due("the most WORTH there can be", x.winners(1), 594);
        due("ITEMS", x.winners(2), 63);
        x.turns(5);
        x.keep(0, 9);
        due("five BIDS and a RESERVE", x.winners(1), 504);
        due("ITEMS", x.winners(2), 62);
        BundlesOfBids y = Sales.told("bid 0 ab 20;bid 1 a 10;bid 2 b 10;");
        due("as much by one", y.winners(0), 1);
        y.price(2, 11);
        due("1 more by two", y.winners(0), 6);
        y.price(2, 9);
        due("1 less by two", y.winners(0), 1);
        BundlesOfBids z = new BundlesOfBids();
        for (int b = 0; b < 10; b++) {
            z.bids(b % 5, 32, 99);
        }
        due("of ten alike ones the least", z.winners(0), 1);
        z.turns(0);
        due("of nine", z.winners(0), 2);
        z.price(9, 98);
        due("of eight", z.winners(0), 2);
        BundlesOfBids six = Sales.told(SINGLES);
        due("six of 10", six.winners(1), 60);
        due("a seventh", six.bids(1, 63, 60), 6);
        due("as much by one BID", six.winners(0), 64);
        six.price(6, 59);
        due("1 less", six.winners(0), 63);
    }

    private static void looked() {
        part("Promise 12: LOOKED: below the most WORTH found so far, no more; not if alike");
        BundlesOfBids thirds = Sales.told("bid 0 abc 10;bid 1 abc 10;");
        // Behind the first the bound without it is three times 10/3: alike, so it is looked at further.
        due("three thirds are one whole", thirds.winners(3), 6);
        thirds.price(1, 9);
        due("1 less: no more", thirds.winners(3), 4);
        BundlesOfBids ten = new BundlesOfBids();
        for (int b = 0; b < 10; b++) {
            ten.bids(b % 5, 1, 50);
        }
        due("ten alike ones: all branches", ten.winners(3), 66);
        BundlesOfBids one = Sales.told("kind 0 1 0;bid 0 a 9;bid 0 b 5;");
        due("what it may not win is seen at the end", one.winners(3), 5);
        BundlesOfBids some = Sales.told("kind 0 2 0;bid 0 a 9;bid 0 b 5;");
        due("nothing is found but nothing", some.winners(3), 7);
        BundlesOfBids kept = Sales.told("keep a 9;bid 0 a 5;");
        due("a RESERVE above a PRICE", kept.winners(3), 3);
        kept.bids(0, 1, 9);
        // In THE ORDER 1, 0: with 1 comes to 9; without it the bound is the RESERVE, 9: not below.
        due("a RESERVE as a PRICE", kept.winners(3), 6);
        due("no BIDS", new BundlesOfBids().winners(3), 1);
        BundlesOfBids again = Sales.told("bid 0 a 50;bid 0 b 50;");
        due("two", again.winners(3), 5);
        due("once more", again.winners(3), 5);
        again.price(0, 1);
        again.price(1, 1);
        due("0 at first, whatever was found before", again.winners(3), 5);
        part("Promise 12: LOOKED: at the end of THE ORDER what is taken is found, not before");
        // With 0 alone 59 would be found at once; but 0, 1 and 2 (58) and 0 and 1 (55) come to the end ahead of it.
        BundlesOfBids last = Sales.told("keep b 9;bid 0 a 50;bid 1 b 5;bid 2 c 3;");
        due("55 is not below 0", last.winners(3), 9);
        part("Promise 12: LOOKED: BOUND counts BIDS that have an ITEM in common with those taken, too");
        // 0 and 2 come to 22. With 1 (ab) BID 2 (bc) still puts 6 on c: 24 is not below 22, 18 and 3 are.
        BundlesOfBids clash = Sales.told("bid 0 a 10;bid 1 ab 18;bid 2 bc 12;bid 3 c 3;");
        due("one more behind 24", clash.winners(3), 10);
    }

    private static void rank() {
        part("Promise 13: the k-th (from 0) of all OUTCOMES; -9 there is none");
        BundlesOfBids x = Sales.told(SINGLES);
        int[] ks = {0, 1, 2, 6, 7, 56, 57, 62, 63};
        int[] bits = {63, 31, 47, 62, 15, 48, 1, 32, 0};
        int[] worths = {60, 50, 50, 50, 40, 20, 10, 10, 0};
        for (int i = 0; i < ks.length; i++) {
            due("rank(" + ks[i] + ",0)", x.rank(ks[i], 0), bits[i]);
            due("rank(" + ks[i] + ",1)", x.rank(ks[i], 1), worths[i]);
        }
        due("rank(64,0)", x.rank(64, 0), -9);
        due("rank(64,1)", x.rank(64, 1), -9);
        due("rank(most,0)", x.rank(MOST_INT, 0), -9);
        due("rank(-1,0)", x.rank(-1, 0), -4);
        BundlesOfBids none = new BundlesOfBids();
        due("of no BIDS the first", none.rank(0, 0), 0);
        due("of no BIDS the second", none.rank(1, 0), -9);
        int outcomes = 0;
        BundlesOfBids same = new BundlesOfBids();
        for (int b = 0; b < 10; b++) {
            same.bids(0, 63, 1 + b);
        }
        while (same.rank(outcomes, 0) != -9) {
            due("rank(" + outcomes + ",1)", same.rank(outcomes, 1), 10 - outcomes);
            outcomes++;
        }
        due("of ten BIDS of all ITEMS", outcomes, 11);
    }

    private static void item() {
        part("Promise 14: an ITEM (0 .. 5): the BID that has it (-9), SCARCE, how many BIDS that are ON");
        BundlesOfBids x = new BundlesOfBids();
        for (int i = 0; i < 6; i++) {
            due("nobody has it", x.item(i, 1), -9);
            x.keep(i, 9);
            due("SCARCE: its RESERVE", x.item(i, 2), 9);
        }
        for (int b = 0; b < 10; b++) {
            x.bids(b % 5, 33, 90 + b);
            due("how many have a", x.item(0, 3), b + 1);
            due("how many have f", x.item(5, 3), b + 1);
            due("how many have b", x.item(1, 3), 0);
        }
        due("BID 9 has a", x.item(0, 1), 9);
        due("BID 9 has f", x.item(5, 1), 9);
        due("SCARCE: its PRICE but f's RESERVE", x.item(0, 2), 90);
        x.price(9, 18);
        x.turns(8);
        due("BID 7 has a", x.item(0, 1), 7);
        due("off ones don't count", x.item(0, 3), 9);
        BundlesOfBids y = Sales.told("bid 0 a 5;");
        due("BID 0 is told from none", y.item(0, 1), 0);
        y.turns(0);
        due("none", y.item(0, 1), -9);
        due("nothing is scarce", y.item(0, 2), 0);
    }

    private static void rival() {
        part("Promise 15: but it; 0, if it is one of THE WINNERS, or that is below 0");
        BundlesOfBids x = new BundlesOfBids();
        for (int b = 0; b < 10; b++) {
            x.bids(0, 16, 80 + b);
        }
        for (int b = 0; b < 10; b++) {
            due("all but it", x.rival(b, 0), 1023 & ~(1 << b));
            due("the winner", x.rival(b, 1), b == 9 ? 0 : 512);
            due("by how much", x.rival(b, 2), 9 - b);
        }
        BundlesOfBids y = Sales.told("kind 0 1 0;bid 0 a 9;bid 1 b 9;bid 0 ab 17;");
        due("18 less 17", y.rival(2, 2), 1);
        y.price(2, 18);
        due("THE WINNERS", y.winners(0), 4);
        due("it is one of THE WINNERS", y.rival(2, 2), 0);
        due("18 less 9", y.rival(0, 2), 9);
        BundlesOfBids z = Sales.told("kind 0 2 0;bid 0 a 9;bid 1 a 9;");
        due("9 less 9", z.rival(0, 2), 0);
        z.price(0, 10);
        due("below 0", z.rival(0, 2), 0);
        z.price(0, 8);
        due("1", z.rival(0, 2), 1);
        due("no rival", Sales.told("bid 0 a 9;bid 0 b 9;").rival(0, 0), 0);
    }

    private static void of() {
        part("Promise 16: THE WINNERS of these BIDS alone; -4; -6 likewise");
        BundlesOfBids x = new BundlesOfBids();
        for (int b = 0; b < 10; b++) {
            due("above all of " + b, x.of(1 << b, 0), -6);
            x.bids(b % 5, 1 << b % 6, 10 + b);
            due("all of " + (b + 1), x.of((2 << b) - 1, 0), x.winners(0));
            due("it alone", x.of(1 << b, 0), 1 << b);
            due("WORTH of it alone", x.of(1 << b, 1), 10 + b);
        }
        due("1024", x.of(1024, 0), -6);
        due("all ten", x.of(1023, 0), 1008);
        due("WORTH", x.of(1023, 1), 16 + 17 + 18 + 19 + 14 + 15);
        due("none", x.of(0, 0), 0);
        due("WORTH of none", x.of(0, 1), 0);
        due("without the last four", x.of(63, 0), 63);
        x.turns(9);
        due("off", x.of(512, 0), 0);
    }

    private static void pays() {
        part("Promise 17: by HARM 0 by who WON nothing; LIFTED up to what it WON");
        BundlesOfBids x = Sales.told("bid 0 a 99;bid 4 a 98;");
        due("AS BID", x.pays(0, 0), 99);
        due("by HARM", x.pays(0, 1), 98);
        due("LIFTED", x.pays(0, 2), 98);
        for (int how = 0; how < 3; how++) {
            due("who WON nothing", x.pays(4, how), 0);
            due("who has no BID", x.pays(2, how), 0);
        }
        x.price(1, 99);
        due("by HARM all that it WON", x.pays(0, 1), 99);
        x.turns(1);
        due("by HARM of nobody", x.pays(0, 1), 0);
        due("1 for 1", Sales.told("bid 3 a 1;bid 4 a 1;").pays(3, 1), 1);
        x.keep(0, 9);
        due("by HARM what it is kept for", x.pays(0, 1), 9);
        BundlesOfBids y = Sales.told("bid 4 abc 18;bid 0 a 9;bid 1 b 9;bid 2 c 3;");
        // By harm 0 and 1 pay 6 each, 2 nothing: the group of 4 blocks by 6, on 0 up to 9, then on 1.
        due("by HARM", y.pays(0, 1), 6);
        due("by HARM", y.pays(1, 1), 6);
        due("by HARM", y.pays(2, 1), 0);
        due("LIFTED up to what it WON", y.pays(0, 2), 9);
        due("LIFTED up to what it WON", y.pays(1, 2), 9);
        due("nothing is left for it", y.pays(2, 2), 0);
        y.price(0, 19);
        // By harm 7, 7 and 1: the group of 4 blocks by 4.
        due("LIFTED up to what it WON", y.pays(0, 2), 9);
        due("LIFTED up to what it WON", y.pays(1, 2), 9);
        due("nothing is left for it", y.pays(2, 2), 1);
        y.price(0, 20);
        // By harm 8, 8 and 2: by 2, one on each.
        due("LIFTED by 1", y.pays(0, 2), 9);
        due("LIFTED by 1", y.pays(1, 2), 9);
        due("not LIFTED", y.pays(2, 2), 2);
    }

    private static void blocks() {
        part("Promise 18: if that is above 0; of several the least; -9 none");
        BundlesOfBids x = Sales.told("bid 0 ab 19;bid 1 a 10;bid 2 b 10;");
        // 1 and 2 pay 9 each by harm: 19 less 18.
        due("by 1", x.blocks(1, 0), 1);
        due("by 1", x.blocks(1, 1), 1);
        x.turns(0);
        due("none", x.blocks(1, 0), -9);
        due("by nothing", x.blocks(1, 1), 0);
        BundlesOfBids y = Sales.told("bid 0 a 10;bid 1 a 6;");
        due("6 less 6 is not above 0", y.blocks(1, 0), -9);
        due("none", y.blocks(1, 1), 0);
        due("nor as bid", y.blocks(0, 0), -9);
        BundlesOfBids z = Sales.told("bid 0 ab 15;bid 4 ab 15;bid 1 a 10;bid 2 b 10;");
        due("0 and 4 by as much: the least", z.blocks(1, 0), 1);
        z.price(1, 16);
        due("4 by more", z.blocks(1, 0), 16);
        due("16 less 12", z.blocks(1, 1), 4);
        z.keep(5, 9);
        due("what nobody WON is not put on anybody", z.blocks(1, 1), 4);
        z.keep(0, 5);
        due("THE WINNERS' RESERVES are asked for", z.blocks(1, 1), 4);
    }

    private static void lifts() {
        part("Promise 19: how often payments are LIFTED");
        BundlesOfBids x = Sales.told("bid 0 ab 20;bid 1 a 10;bid 2 b 10;");
        due("as much by one BID: nobody blocks", x.lifts(), 0);
        x.price(0, 19);
        due("once, by 1", x.lifts(), 1);
        due("one behind the other", x.pays(1, 2), 10);
        due("one behind the other", x.pays(2, 2), 9);
        BundlesOfBids three = Sales.told("bid 0 a 10;bid 1 b 10;bid 2 c 10;bid 3 ab 10;bid 4 bc 10;bid 3 ac 10;");
        // By harm nobody pays. 3 (of several the least) blocks by 10, on 0; then 0 with 4 by 10, on 1.
        due("by HARM nothing", three.pays(0, 1) + three.pays(1, 1) + three.pays(2, 1), 0);
        due("the least", three.blocks(1, 0), 8);
        due("blocks by 10", three.blocks(1, 1), 10);
        due("twice", three.lifts(), 2);
        due("on the first", three.pays(0, 2), 10);
        due("on the second, too", three.pays(1, 2), 10);
        due("not on the third", three.pays(2, 2), 0);
        due("nobody then", three.blocks(2, 0), -9);
        due("by HARM as it was", three.pays(0, 1), 0);
        due("nothing WON, nothing LIFTED", new BundlesOfBids().lifts(), 0);
        part("Promise 19: on payments of BIDDERS that aren't in it");
        // By harm 0 pays 8, 1 and 2 nothing: 0 and 4 block by 20 less 8 less 2; 0 could pay 2 more, but is in it.
        BundlesOfBids in = Sales.told("bid 0 a 10;bid 3 a 8;bid 1 b 10;bid 2 c 10;bid 4 bc 10;");
        due("0 and 4", in.blocks(1, 0), 17);
        due("by 10", in.blocks(1, 1), 10);
        due("once", in.lifts(), 1);
        due("in it", in.pays(0, 2), 8);
        due("not in it", in.pays(1, 2), 10);
        due("behind the one that pays all", in.pays(2, 2), 0);
    }

    private static void group() {
        part("Promise 20: a GROUP (bits, 0 .. 31)");
        BundlesOfBids x = new BundlesOfBids();
        for (int who = 0; who < 5; who++) {
            x.bids(who, 1 << who, 10 + who);
        }
        x.bids(4, 31, 40);
        x.keep(5, 9);
        for (int group = 0; group < 32; group++) {
            int own = 0;
            for (int who = 0; who < 5; who++) {
                own += (group >> who & 1) * (10 + who);
            }
            boolean whole = group >= 16 && own < 40;
            due("WORTH of " + group, x.group(group, 0), 9 + (whole ? 40 : own));
            due("BIDS of " + group, x.group(group, 1), whole ? 32 : group);
            due("WON of " + group, x.group(group, 2), own);
            // Of all others but 4 nothing else comes; of those with 4 its BID of all is worth 40 of 60.
            int rest = 60 - own;
            due("HARM of " + group, x.group(group, 3), group >= 16 ? 0 : Math.max(rest, 40) - rest);
            due("payments by HARM of " + group, x.group(group, 4), 0);
        }
    }

    private static void envy() {
        part("Promise 21: if that is above 0");
        BundlesOfBids x = Sales.told("kind 0 3 1;bid 0 a 10;bid 0 b 10;bid 1 a 12;bid 1 b 3;bid 2 b 2;");
        due("10 less 2 less (10 less 3)", x.envy(0, 1), 1);
        x.price(3, 2);
        due("10 less 2 less (10 less 2)", x.envy(0, 1), 0);
        x.price(3, 4);
        due("10 less 2 less (10 less 4)", x.envy(0, 1), 2);
        x.price(3, 1);
        due("below 0", x.envy(0, 1), 0);
        x.price(3, 4);
        x.price(0, 8);
        due("8 less 0 less (10 less 4)", x.envy(0, 1), 2);
        part("Promise 21: the most PRICES, whatever is kept for");
        // With what b is kept for BID 1 would be worth 11, above BID 0: but 10 less 3 less (10 less 4) is asked.
        BundlesOfBids kept = Sales.told("kind 0 3 1;keep b 2;bid 0 ab 10;bid 0 a 9;bid 0 c 10;bid 1 ab 12;bid 1 c 4;"
            + "bid 2 c 2;");
        due("0 pays", kept.pays(0, 1), 4);
        due("1 pays", kept.pays(1, 1), 3);
        due("10 less 3 less 6", kept.envy(0, 1), 1);
        kept.turns(0);
        due("9 less 3 less 6", kept.envy(0, 1), 0);
        part("Promise 21: 0, if none");
        due("for one that WON nothing", x.envy(0, 4), 0);
        due("of one that bids nothing", x.envy(4, 0), 0);
        due("both", x.envy(3, 4), 0);
        for (int who = 0; who < 5; who++) {
            due("one twice", x.envy(who, who), -1);
        }
        part("Promise 21: of one for another one");
        for (int one = 0; one < 5; one++) {
            for (int other = 0; other < 5; other++) {
                if (one != other) {
                    envyOf(one, other);
                }
            }
        }
    }

    private static void envyOf(int one, int other) {
        int third = 0;
        while (third == one || third == other) {
            third++;
        }
        BundlesOfBids x = Sales.told("kind " + one + " 3 1;bid " + one + " a 10;bid " + one + " b 10;bid " + other
            + " a 12;bid " + other + " b 3;bid " + third + " b 2;");
        for (int who = 0; who < 5; who++) {
            for (int whom = 0; whom < 5; whom++) {
                int want = who == one && whom == other ? 1 : who == whom ? -1 : 0;
                due("envy(" + who + "," + whom + ") of " + one + " for " + other, x.envy(who, whom), want);
            }
        }
    }

    private static void gain() {
        part("Promise 22: GAIN, that counts below 0, too");
        BundlesOfBids x = Sales.told("bid 0 a 10;bid 0 b 10;bid 1 ab 12;");
        // Now it pays 12; then each pays 2.
        due("16 less 8", x.gain(0), 8);
        due("of one BID", x.gain(1), 0);
        due("of none", x.gain(4), 0);
        BundlesOfBids y = Sales.told("bid 0 a 10;bid 0 a 9;bid 1 b 5;");
        // Now it pays nothing; then its second BID makes its first one pay 9.
        due("1 less 10", y.gain(0), -9);
        y.turns(1);
        due("one that is off makes none pay", y.gain(0), 0);
        BundlesOfBids z = Sales.told("kind 0 2 0;bid 0 a 10;bid 1 a 4;");
        due("a SOME of 0 WON nothing now", z.gain(0), 6);
        z.price(1, 9);
        due("1 then", z.gain(0), 1);
        z.price(1, 10);
        due("less bits: it WON then, and pays all", z.gain(0), 0);
        due("the KIND stays", z.kind(0, 0, 0), 20);
        due("gain(4)", z.gain(4), 0);
        due("gain(5)", z.gain(5), -100001);
        BundlesOfBids most = Sales.told("kind 0 1 0;bid 0 a 99;bid 0 b 99;bid 0 c 99;bid 0 d 99;bid 0 e 99;bid 0 f 99;");
        due("the greatest: 594 less 99", most.gain(0), 495);
        BundlesOfBids worst = Sales.told("bid 0 a 99;bid 0 b 99;bid 0 c 99;bid 0 a 99;bid 0 b 99;bid 0 c 99;");
        due("the least: 0 less 297", worst.gain(0), -297);
    }

    private static void without() {
        part("Promise 23: WITHOUT a BID: WORTH of THE WINNERS");
        BundlesOfBids x = new BundlesOfBids();
        due("no BIDS", x.without(0), -1);
        for (int b = 0; b < 10; b++) {
            x.bids(b % 5, 1, 90 + b);
        }
        for (int b = 0; b < 10; b++) {
            due("without(" + b + ")", x.without(b), b == 9 ? 98 : 99);
        }
        due("without(10)", x.without(10), -1);
        BundlesOfBids one = Sales.told("bid 0 a 9;keep a 8;");
        due("of none what is kept", one.without(0), 8);
        due("it comes again", one.winners(1), 9);
    }

    private static void least() {
        part("Promise 24: the least (1 .. 99) by which it is among THE WINNERS; -9");
        due("1", Sales.told("bid 0 a 50;").least(0), 1);
        BundlesOfBids x = Sales.told("bid 0 a 50;keep a 9;");
        due("a RESERVE of 9", x.least(0), 10);
        x.keep(0, 1);
        due("a RESERVE of 1", x.least(0), 2);
        BundlesOfBids y = Sales.told("bid 0 a 98;bid 1 a 1;bid 2 ab 3;");
        due("99 above 98", y.least(1), 99);
        due("of alike ones it is the least", y.least(0), 3);
        due("99 above 98", y.least(2), 99);
        y.price(0, 99);
        due("none is above 99", y.least(1), -9);
        due("nor of two", y.least(2), -9);
        due("as much is enough for it", y.least(0), 3);
        y.price(0, 2);
        due("as much as BID 2 is", y.least(0), 3);
        BundlesOfBids never = Sales.told("kind 0 2 0;bid 0 a 99;kind 1 3 0;bid 1 b 1;kind 2 4 1;bid 2 cd 9;");
        for (int b = 0; b < 3; b++) {
            due("it may not win", never.least(b), -9);
            due("its PRICE stays", never.bid(b, 2), b == 0 ? 99 : b == 1 ? 1 : 9);
        }
        BundlesOfBids purse = Sales.told("kind 0 3 9;bid 0 a 1;bid 1 a 89;");
        due("90 of a PURSE of 90: as much as 89 is enough", purse.least(0), 89);
        purse.price(1, 90);
        due("90", purse.least(0), 90);
        purse.price(1, 91);
        due("above the PURSE", purse.least(0), -9);
        x.turns(0);
        due("ON then", x.least(0), 2);
        due("off still", x.bid(0, 3), 0);
        BundlesOfBids ten = new BundlesOfBids();
        for (int b = 0; b < 10; b++) {
            ten.bids(b % 5, 1 << b % 5, 20);
            ten.turns(b);
        }
        for (int b = 0; b < 10; b++) {
            due("ON then, alone", ten.least(b), 1);
            due("off still", ten.count(1), 0);
        }
        BundlesOfBids proud = Sales.told("kind 0 5 2;bid 0 a 10;bid 0 b 40;");
        due("a PROUD one has both for 1", proud.least(1), 1);
        proud.keep(1, 9);
        due("10 and 1 are above a RESERVE of 9", proud.least(1), 1);
        proud.price(0, 1);
        due("1 and 8 are not above 9, 1 and 9 are", proud.least(1), 9);
    }

    private static void tight() {
        part("Promise 25: BIDS of THE WINNERS that a PRICE 1 less would put out of them");
        BundlesOfBids x = Sales.told("bid 0 a 10;bid 1 a 8;");
        due("10 above 8: 9 still wins", x.tight(), 0);
        x.price(1, 9);
        due("9 above 9: of alike ones the least", x.tight(), 0);
        x.price(1, 10);
        due("9 below 10", x.tight(), 1);
        x.turns(1);
        x.keep(0, 8);
        due("9 above a RESERVE of 8", x.tight(), 0);
        x.keep(0, 9);
        due("9 is kept for 9", x.tight(), 1);
        BundlesOfBids y = new BundlesOfBids();
        for (int i = 0; i < 6; i++) {
            y.bids(i % 5, 1 << i, 10);
        }
        due("none", y.tight(), 0);
        y.bids(0, 63, 59);
        due("59 of one BID: all six", y.tight(), 63);
        y.price(6, 58);
        due("58: none", y.tight(), 0);
        y.price(6, 60);
        due("60 of one BID wins, 59 doesn't", y.tight(), 64);
        y.price(6, 99);
        due("98 does", y.tight(), 0);
        // BID 0 is tight. A PRICE of 1 or 2 less leaves a and b 19, above 18; both less would leave just 18.
        BundlesOfBids each = Sales.told("bid 0 c 10;bid 1 a 10;bid 2 b 10;bid 3 ab 18;bid 4 c 10;");
        due("a PRICE of one alone is less", each.tight(), 1);
        BundlesOfBids proud = Sales.told("kind 0 5 2;bid 0 a 10;bid 0 b 1;");
        due("a PROUD one has both, even for nothing", proud.tight(), 0);
        proud.kind(0, 0, 0);
        due("an ANY one not", proud.tight(), 2);
    }

    private static void missing() {
        part("Promise 26: odds 1 in t (2 .. 20)");
        BundlesOfBids x = new BundlesOfBids();
        for (int b = 0; b < 10; b++) {
            x.bids(b % 5, 1, 99 - b);
        }
        long half = 1;
        for (int b = 0; b < 10; b++) {
            half *= 2;
            CHECKS.fraction("all ahead of it are missing, " + b, x.missing(b, 2, 0), x.missing(b, 2, 1), 1, half);
        }
        long below = 1;
        for (int b = 0; b < 10; b++) {
            below *= 20;
            CHECKS.fraction("1 in 20, " + b, x.missing(b, 20, 0), x.missing(b, 20, 1), 19, below);
        }
        BundlesOfBids six = Sales.told("bid 0 a 9;bid 1 b 9;bid 2 c 9;bid 3 d 9;bid 4 e 9;bid 0 f 9;bid 1 abcdef 53;");
        // The one of all items wins unless all six come, which are worth 54.
        CHECKS.fraction("unless all six come", six.missing(6, 2, 0), six.missing(6, 2, 1), 63, 128);
        CHECKS.fraction("with all others, or without the one", six.missing(0, 2, 0), six.missing(0, 2, 1), 33, 128);
        part("Promise 26: 0 by 1, if nothing");
        six.turns(6);
        CHECKS.fraction("off", six.missing(6, 2, 0), six.missing(6, 2, 1), 0, 1);
        CHECKS.fraction("half of one", six.missing(0, 2, 0), six.missing(0, 2, 1), 1, 2);
        CHECKS.fraction("19 of 20", six.missing(5, 20, 0), six.missing(5, 20, 1), 19, 20);
    }

    private static void mean() {
        part("Promise 27: fractions in least terms (0 by 1, if nothing)");
        BundlesOfBids x = Sales.told("bid 0 a 9;bid 1 b 9;bid 2 c 9;");
        CHECKS.fraction("27 by 3", x.mean(0, 0), x.mean(0, 1), 9, 1);
        CHECKS.fraction("0 by 3", x.mean(1, 0), x.mean(1, 1), 0, 1);
        x.price(2, 10);
        CHECKS.fraction("28 by 3", x.mean(0, 0), x.mean(0, 1), 28, 3);
        x.turns(0);
        x.price(2, 9);
        CHECKS.fraction("18 by 2", x.mean(0, 0), x.mean(0, 1), 9, 1);
        x.bids(3, 56, 8);
        x.bids(4, 1, 2);
        CHECKS.fraction("28 by 4", x.mean(0, 0), x.mean(0, 1), 7, 1);
        x.price(4, 4);
        CHECKS.fraction("30 by 4", x.mean(0, 0), x.mean(0, 1), 15, 2);
        x.turns(1);
        x.turns(2);
        x.turns(3);
        CHECKS.fraction("by one", x.mean(0, 0), x.mean(0, 1), 4, 1);
        x.turns(4);
        CHECKS.fraction("by none", x.mean(0, 0), x.mean(0, 1), 0, 1);
        BundlesOfBids five = Sales.told("bid 0 a 99;bid 1 b 99;bid 2 c 99;bid 3 d 99;bid 4 e 99;bid 4 f 99;");
        CHECKS.fraction("594 by 5", five.mean(0, 0), five.mean(0, 1), 594, 5);
    }

    private static void printed() {
        part("Promise 28: the i-th letter (-1: how many); -9 behind all");
        CHECKS.prints(Sales.told("bid 0 abcdef 1;"), "0:abcdef=1/1");
        CHECKS.prints(Sales.told("bid 4 abcdef 99;"), "4:abcdef=99/99");
        CHECKS.prints(Sales.told("bid 4 fedcba 10;"), "4:abcdef=10/10");
        CHECKS.prints(Sales.told("bid 1 a 9;bid 2 f 9;"), "1:a=9;2:f=9/18");
        CHECKS.prints(Sales.told("bid 1 f 9;bid 2 a 99;"), "1:f=9;2:a=99/108");
        CHECKS.prints(Sales.told("bid 1 f 1;keep a 9;"), "1:f=1/10");
        CHECKS.prints(Sales.told("bid 1 a 1;bid 2 b 99;"), "1:a=1;2:b=99/100");
        CHECKS.prints(Sales.told("bid 1 a 1;bid 2 b 98;"), "1:a=1;2:b=98/99");
        CHECKS.prints(Sales.told("keep a 9;"), "/9");
        CHECKS.prints(Sales.told("keep a 9;keep b 1;"), "/10");
        CHECKS.prints(Sales.told("keep a 0;"), "/0");
        CHECKS.prints(Sales.told("bid 0 a 99;bid 1 b 99;bid 2 c 99;bid 3 d 99;bid 4 e 99;bid 0 f 99;"),
            "0:a=99;1:b=99;2:c=99;3:d=99;4:e=99;0:f=99/594");
    }

    private static void whatIs() {
        part("Promise 29: of none all is so; the ROW may tell fewer than all; the ROW stays");
        BundlesOfBids x = Sales.told("bid 0 a 9;bid 1 a 5;bid 4 f 3;keep f 2;");
        for (int who = 0; who < 5; who++) {
            due("KINDS by no ROW", x.whatIs(who, 0), 63);
            due("FIGURES by no ROW", x.whatIs(who, 1), 1023);
        }
        x.row(5);
        // With a FIGURE of 0 only ANY and ONE win one BID.
        due("KINDS", x.whatIs(0, 0), 3);
        x.row(0);
        x.row(0);
        x.row(0);
        due("fewer than all", x.whatIs(4, 0), 63);
        x.row(2);
        due("count(5)", x.count(5), 5);
        due("all five", x.whatIs(4, 0), 3);
        due("all five", x.whatIs(0, 0), 3);
        x.kind(4, 2, 9);
        due("SOME of 1 .. 9", x.whatIs(4, 1), 1022);
        x.kind(4, 3, 9);
        due("PURSE of 10 .. 90 for 3", x.whatIs(4, 1), 1022);
        x.kind(4, 5, 9);
        due("PROUD never has one", x.whatIs(4, 1), 0);
        x.kind(4, 4, 0);
        due("SMALL of 1 .. 9", x.whatIs(4, 1), 1022);
        due("the FIGURE stays", x.kind(4, 1, 9), 40);
        due("ONE by any", x.whatIs(4, 1), 1023);
        due("all but PROUD by 9", x.whatIs(4, 0), 31);
        due("the KIND stays", x.kind(4, 0, 0), 19);
        due("the ROW stays", x.clear(), 5);
    }

    private static void row() {
        part("Promise 30: a number (0 .. 99), 5 at most");
        BundlesOfBids x = new BundlesOfBids();
        due("0", x.row(0), 1);
        due("99", x.row(99), 2);
        due("-1", x.row(-1), -4);
        due("100", x.row(100), -6);
        due("1", x.row(1), 3);
        due("98", x.row(98), 4);
        due("50", x.row(50), 5);
        due("a sixth", x.row(0), -6);
        due("a sixth of 99", x.row(99), -6);
        due("count(5)", x.count(5), 5);
        due("clear()", x.clear(), 5);
        due("a first one again", x.row(7), 1);
    }

    private static void judge() {
        part("Promise 31: the first that is not so; -9; the ROW has none then");
        for (int wrong = 0; wrong < 5; wrong++) {
            BundlesOfBids x = Sales.told("bid 0 a 9;bid 1 b 8;bid 2 c 7;bid 3 d 6;bid 4 e 5;");
            for (int who = 0; who < 5; who++) {
                x.row(who >= wrong ? 0 : 9 - who);
            }
            due("the first of several", x.judge(0), wrong);
            due("the ROW has none", x.count(5), 0);
            for (int who = 0; who < 5; who++) {
                x.row(who == wrong ? 99 : 0);
            }
            due("by HARM", x.judge(1), wrong);
            for (int who = 0; who <= wrong; who++) {
                x.row(9 - who);
            }
            due("those behind the ROW's end are not looked at", x.judge(0), -9);
            due("the ROW has none", x.count(5), 0);
            for (int who = 0; who < wrong; who++) {
                x.row(0);
            }
            due("refused", x.judge(3), -2);
            due("the ROW stays", x.count(5), wrong);
            due("LIFTED", x.judge(2), -9);
        }
    }

    private static void clear() {
        part("Promise 32: the ROW has none then: how many it had");
        BundlesOfBids x = new BundlesOfBids();
        for (int had = 0; had <= 5; had++) {
            for (int i = 0; i < had; i++) {
                x.row(99);
            }
            due("clear()", x.clear(), had);
            due("count(5)", x.count(5), 0);
            due("clear() again", x.clear(), 0);
            due("of none all is so", x.judge(0), -9);
        }
    }

    private static int oneLot(int z) {
        return Sales.told("bid 0 a 50;").lots(1, z, 0);
    }

    private static void lotsDraws() {
        part("Promise 33: a DRAW below m: z becomes z times 1664525 and 1013904223 (an int)");
        due("z = 0", oneLot(0), 69);
        due("z = 1", oneLot(1), 37);
        due("z = -1 becomes 1012239698", oneLot(-1), 2);
        due("the greatest becomes -1135243950", oneLot(MOST_INT), 2);
        due("the least becomes -1133579425", oneLot(LEAST_INT), 69);
        due("becomes the least: its bit off, 0", oneLot(-1512697883), 1);
        due("becomes the greatest", oneLot(-1493846240), 41);
        due("becomes -1: its bit off, the greatest", oneLot(653637408), 41);
        due("becomes 0", oneLot(634785765), 1);
        due("becomes 255: by 256, cut, 0", oneLot(122584096), 1);
        due("becomes 256: by 256 1", oneLot(103732453), 2);
        due("becomes 98 times 256: the greatest PRICE", oneLot(131168741), 99);
        due("becomes 99 times 256, less 1", oneLot(-381032928), 99);
        due("becomes 99 times 256: the least PRICE", oneLot(-399884571), 1);
    }

    private static void lotsSums() {
        part("Promise 33: n auctions (1 .. 20), each from now");
        int[] seeds = {0, 1, -1, MOST_INT, LEAST_INT, 653637408, -1512697883, 12345, -98765};
        for (int seed : seeds) {
            for (int n = 1; n <= 20; n++) {
                lotsOfTen(n, seed);
            }
        }
    }

    /** Ten BIDS of five BIDDERS for one ITEM: the greatest wins, and pays the greatest of the others. */
    private static void lotsOfTen(int n, int seed) {
        BundlesOfBids x = new BundlesOfBids();
        for (int b = 0; b < 10; b++) {
            x.bids(b % 5, 4, 50);
        }
        x.turns(3);
        x.turns(8);
        x.turns(9);
        long z = seed & 0xffffffffL;
        int worth = 0;
        int paid = 0;
        for (int lot = 0; lot < n; lot++) {
            int[] prices = new int[10];
            int best = 0;
            for (int b = 0; b < 10; b++) {
                z = (z * 1664525L + 1013904223L) % 4294967296L;
                boolean on = b != 3 && b < 8;
                prices[b] = on ? 1 + (int) (z % 2147483648L / 256 % 99) : 0;
                best = prices[b] > prices[best] ? b : best;
            }
            int next = 0;
            for (int b = 0; b < 10; b++) {
                next = b % 5 == best % 5 ? next : Math.max(next, prices[b]);
            }
            worth += prices[best];
            paid += next;
        }
        due("lots(" + n + "," + seed + ",0)", x.lots(n, seed, 0), worth);
        due("lots(" + n + "," + seed + ",1)", x.lots(n, seed, 1), paid);
        due("PRICES stay", x.bid(9, 2), 50);
    }

    private static void image() {
        part("Promises 34, 35: THE IMAGE: all that there is, but it, the ROW, letters, REFUSALS");
        BundlesOfBids x = new BundlesOfBids();
        due("there is none", x.on(), -3);
        due("of an empty sale", x.image(), 0);
        for (int b = 0; b < 10; b++) {
            x.bids(b % 5, 1 << b % 6, 10 + b);
            x.kind(b % 5, 5, 9);
            x.keep(b % 6, 9);
        }
        x.row(9);
        x.letter('o');
        x.turns(-1);
        due("on from an empty sale", x.on(), 0);
        due("BIDS", x.count(0), 0);
        due("RESERVES", x.count(2), 0);
        for (int who = 0; who < 5; who++) {
            due("its BIDS", x.bidder(who, 2), 0);
            due("KIND and FIGURE", x.kind(who, 0, 0), 0);
        }
        due("the ROW", x.count(5), 1);
        due("letters", x.count(6), 1);
        due("REFUSALS -1", x.count(11), 1);
        due("REFUSALS -3", x.count(13), 1);
        for (int b = 0; b < 10; b++) {
            due("room again", x.bids(4 - b % 5, 32 >> b % 6, 90 + b), b);
        }
        x.turns(4);
        due("of a full sale", x.image(), 10);
        x.turns(4);
        x.price(9, 1);
        x.clear();
        due("on from a full sale", x.on(), 10);
        due("no room", x.bids(0, 1, 1), -6);
        due("off as then", x.count(1), 1007);
        due("PRICE as then", x.bid(9, 2), 99);
        due("SET as then", x.bid(9, 1), 4);
        due("BIDDER as then", x.bid(9, 0), 0);
        due("the ROW is not as then", x.count(5), 0);
        x.price(9, 2);
        due("on from it once more", x.on(), 10);
        due("PRICE as then", x.bid(9, 2), 99);
        part("Promises 34, 35: neither touches the ROW, letters, REFUSALS");
        BundlesOfBids y = Sales.told("bid 0 a 9;bid 1 a 9;");
        y.on();
        y.row(9);
        y.row(1);
        Sales.send(y, "off 0;");
        due("image()", y.image(), 2);
        due("the ROW", y.count(5), 2);
        due("letters", y.count(6), 6);
        due("REFUSALS", y.count(13), 1);
        due("on()", y.on(), 2);
        due("the ROW as it was", y.judge(0), 1);
        due("the letters as they were", y.auction(), 1);
        due("now it is off", y.count(1), 2);
        due("in THE IMAGE it is ON", y.on(), 2);
        due("ON as then", y.count(1), 3);
    }

    private static void count() {
        part("Promise 36: -9 for another what, and it is not refused");
        BundlesOfBids x = new BundlesOfBids();
        int[] others = {LEAST_INT, -17, -11, -1, 7, 8, 9, 10, 17, 18, 100, MOST_INT};
        for (int what : others) {
            due("count(" + what + ")", x.count(what), -9);
        }
        for (int what = 11; what <= 16; what++) {
            due("count(" + what + ")", x.count(what), 0);
        }
        part("Promise 36: count(0) .. count(6) of a full sale");
        for (int b = 0; b < 10; b++) {
            x.bids(b % 5, 1 << b % 6, 99);
        }
        for (int i = 0; i < 6; i++) {
            x.keep(i, 9);
        }
        Sales.send(x, "x".repeat(96));
        for (int i = 0; i < 5; i++) {
            x.row(i);
        }
        long[] dues = {10, 1023, 54, 31, 990, 5, 96};
        for (int what = 0; what < dues.length; what++) {
            due("count(" + what + ")", x.count(what), dues[what]);
        }
        for (int what = 11; what <= 16; what++) {
            due("count(" + what + ")", x.count(what), 0);
        }
        BundlesOfBids one = Sales.told("bid 3 a 1;bid 4 b 1;bid 2 b 1;");
        due("BIDDERS that WON 1", one.count(3), 24);
        due("PRICES of 1", one.count(4), 3);
        one.turns(0);
        one.turns(2);
        due("one that WON 1", one.count(3), 16);
        part("Promise 36: REFUSALS");
        for (int times = 1; times <= 100; times++) {
            x.winners(-1);
            due("REFUSALS -2", x.count(12), times);
        }
    }

    private static void manyCalls() {
        part("512 calls");
        String[] dear = {"least", "missing", "lots", "whatIs", "rank", "tight", "lifts"};
        for (String name : dear) {
            BundlesOfBids x = new BundlesOfBids();
            for (int b = 0; b < 10; b++) {
                x.bids(b % 5, 1 << b % 6, 30 + 7 * b);
            }
            int last = name.equals("missing") || name.equals("lots") ? 20 : name.equals("rank") ? 1 : 0;
            int first = name.equals("lots") ? 20 : name.equals("rank") ? 200 : 4;
            long want = Calls.of(x, name, first, last, 0);
            for (int call = 12; call <= 512; call++) {
                due(name + ", call " + call, Calls.of(x, name, first, last, 0), want);
            }
        }
    }
}
