/** Each promise by hand: ordinary inputs, the edges that the document names, and wrong inputs. */
public final class PromisesTest {
    private static final Checks CHECKS = new Checks();
    private static final long LONG_REFUSAL = 4000000000000000000L;
    private static final int LEAST_INT = Integer.MIN_VALUE;
    private static final int MOST_INT = Integer.MAX_VALUE;
    /** Winners: bid 0 and bid 4 with 29 together. */
    private static final String FIVE = "bid 0 ab 20;bid 1 a 9;bid 2 b 8;bid 3 bc 14;bid 1 c 9;";
    /** Two small bids win over a big one and pay nothing by harm. */
    private static final String CHEAP = "bid 0 ab 10;bid 1 a 10;bid 2 b 10;";

    public static void main(String[] args) {
        newObject();
        letter();
        auctionTexts();
        auctionFaultsOfForm();
        auctionFaultsOfSense();
        auctionIsAllOrNothing();
        bids();
        turns();
        price();
        kind();
        kindsSayWhatMayWin();
        keep();
        bid();
        bidder();
        may();
        winners();
        winnersTies();
        looked();
        rank();
        item();
        rival();
        of();
        pays();
        blocksAndLifts();
        group();
        envy();
        gain();
        without();
        least();
        tight();
        missing();
        mean();
        printed();
        whatIs();
        rowJudgeClear();
        lots();
        imageAndOn();
        count();
        CHECKS.end("PromisesTest");
    }

    private static void part(String name) {
        CHECKS.part(name);
    }

    private static void due(String call, long got, long want) {
        CHECKS.due(call, got, want);
    }

    private static void newObject() {
        part("Promise 1: new object");
        BundlesOfBids x = new BundlesOfBids();
        for (int what = 0; what <= 6; what++) {
            due("count(" + what + ")", x.count(what), 0);
        }
        for (int what = 11; what <= 16; what++) {
            due("count(" + what + ")", x.count(what), 0);
        }
        for (int b = 0; b < 5; b++) {
            for (int what = 0; what <= 4; what++) {
                due("bidder(" + b + "," + what + ")", x.bidder(b, what), 0);
            }
            due("gain(" + b + ")", x.gain(b), 0);
        }
        for (int i = 0; i < 6; i++) {
            due("item(" + i + ",0)", x.item(i, 0), 0);
            due("item(" + i + ",1)", x.item(i, 1), -9);
            due("item(" + i + ",2)", x.item(i, 2), 0);
            due("item(" + i + ",3)", x.item(i, 3), 0);
        }
        due("winners(0)", x.winners(0), 0);
        due("winners(1)", x.winners(1), 0);
        due("winners(2)", x.winners(2), 0);
        due("winners(3)", x.winners(3), 1);
        due("may(0)", x.may(0), 1);
        due("may(1)", x.may(1), -6);
        due("rank(0,0)", x.rank(0, 0), 0);
        due("rank(1,0)", x.rank(1, 0), -9);
        due("lifts()", x.lifts(), 0);
        due("blocks(1,0)", x.blocks(1, 0), -9);
        due("blocks(1,1)", x.blocks(1, 1), 0);
        due("mean(1,0)", x.mean(1, 0), 0);
        due("mean(1,1)", x.mean(1, 1), 1);
        due("lots(20,7,0)", x.lots(20, 7, 0), 0);
        due("tight()", x.tight(), 0);
        due("whatIs(0,0)", x.whatIs(0, 0), 63);
        due("whatIs(0,1)", x.whatIs(0, 1), 1023);
    }

    private static void letter() {
        part("Promise 2: letter");
        BundlesOfBids x = new BundlesOfBids();
        due("letter(0)", x.letter(0), 1);
        due("letter(255)", x.letter(255), 2);
        due("letter(-1)", x.letter(-1), -4);
        due("letter(256)", x.letter(256), -6);
        due("letter(least)", x.letter(LEAST_INT), -4);
        due("letter(most)", x.letter(MOST_INT), -6);
        due("count(6)", x.count(6), 2);
        for (int i = 3; i <= 96; i++) {
            due("letter " + i, x.letter('a'), i);
        }
        due("letter 97", x.letter('a'), -6);
        due("letter 97, below", x.letter(-1), -4);
        due("count(6)", x.count(6), 96);
        due("count(14)", x.count(14), 3);
        due("count(16)", x.count(16), 3);
        due("auction()", x.auction(), -1000);
        due("count(6)", x.count(6), 0);
        due("letter after", x.letter('a'), 1);
    }

    private static void auctionTexts() {
        part("Promise 3: auction");
        BundlesOfBids x = new BundlesOfBids();
        due("one", Sales.hear(x, "bid 4 fa 99;"), 1);
        due("bid(0,0)", x.bid(0, 0), 4);
        due("bid(0,1)", x.bid(0, 1), 33);
        due("bid(0,2)", x.bid(0, 2), 99);
        due("bid(0,3)", x.bid(0, 3), 1);
        due("all words", Sales.hear(x, "kind 4 5 9;keep c 7;price 00 5;off 0;bid 03 b 01;"), 5);
        due("bidder(4,0)", x.bidder(4, 0), 5);
        due("bidder(4,1)", x.bidder(4, 1), 9);
        due("item(2,0)", x.item(2, 0), 7);
        due("bid(0,2)", x.bid(0, 2), 5);
        due("bid(0,3)", x.bid(0, 3), 0);
        due("bid(1,0)", x.bid(1, 0), 3);
        due("bid(1,2)", x.bid(1, 2), 1);
        due("count(0)", x.count(0), 2);
        due("count(6)", x.count(6), 0);
        due("off again is on", Sales.hear(x, "off 0;"), 1);
        due("bid(0,3)", x.bid(0, 3), 1);
        due("off and on", Sales.hear(x, "off 1;off 1;"), 2);
        due("bid(1,3)", x.bid(1, 3), 1);
        due("sixteen", Sales.hear(x, "off 1;off 1;off 1;off 1;off 1;off 1;off 1;off 1;"
            + "off 1;off 1;off 1;off 1;off 1;off 1;off 1;off 0;"), 16);
        due("count(1)", x.count(1), 0);
        due("nothing", x.auction(), -1000);
        for (int what = 11; what <= 16; what++) {
            due("count(" + what + ")", x.count(what), 0);
        }
    }

    private static void form(String text, int place) {
        BundlesOfBids x = new BundlesOfBids();
        x.bids(0, 1, 1);
        due("'" + text + "'", Sales.hear(x, text), -1000 - place);
        due("count(6) after '" + text + "'", x.count(6), 0);
    }

    private static void auctionFaultsOfForm() {
        part("Promise 3: faults of form");
        form("", 0);
        form(";", 0);
        form(" bid 0 a 1;", 0);
        form("b", 0);
        form("bi", 0);
        form("bidx 0 a 1;", 0);
        form("Bid 0 a 1;", 0);
        form("bids 0 a 1;", 0);
        form("ofF 0;", 0);
        form("bid", 3);
        form("bid;", 3);
        form("bid0 a 1;", 3);
        form("bid ", 4);
        form("bid  0 a 1;", 4);
        form("bid x a 1;", 4);
        form("bid -1 a 1;", 4);
        form("bid 123 a 1;", 6);
        form("bid 0", 5);
        form("bid 0;", 5);
        form("bid 0 ", 6);
        form("bid 0 A 1;", 6);
        form("bid 0 1 1;", 6);
        form("bid 0 a", 7);
        form("bid 0 a;", 7);
        form("bid 0 aB 1;", 7);
        form("bid 0 a ", 8);
        form("bid 0 a b;", 8);
        form("bid 0 a 1", 9);
        form("bid 0 a 1 ;", 9);
        form("bid 0 a 12", 10);
        form("bid 0 a 100;", 10);
        form("bid 0 a 1;x", 10);
        form("bid 0 a 1; bid 0 a 1;", 10);
        form("bid 0 a 1;;", 10);
        form("off 0;of 0;", 6);
        form("off 0 0;", 5);
        form("off a;", 4);
        form("kind 0 1;", 8);
        form("kind 0 1 ;", 9);
        form("kind 0 a 1;", 7);
        form("kind 0 1 2 3;", 10);
        form("keep 0 1;", 5);
        form("keep ab 1;", 6);
        form("keep a;", 6);
        form("keep a 111;", 9);
        form("keep a b;", 7);
        form("price 0;", 7);
        form("price 0 a;", 8);
        form("price  0 1;", 6);
        form("off 9;bid", 9);
        form("bid 0 a 1" + (char) 0, 9);
        form((char) 255 + "bid 0 a 1;", 0);
        form("bid 0 a" + (char) 160 + "1;", 7);
        form("off 0;off 0;off 0;off 0;off 0;off 0;off 0;off 0;"
            + "off 0;off 0;off 0;off 0;off 0;off 0;off 0;off 10", 96);
    }

    private static void sense(String text, int place) {
        BundlesOfBids x = new BundlesOfBids();
        x.bids(0, 1, 1);
        due("'" + text + "'", Sales.hear(x, text), -2000 - place);
        due("count(0) after '" + text + "'", x.count(0), 1);
        due("count(6) after '" + text + "'", x.count(6), 0);
    }

    private static void auctionFaultsOfSense() {
        part("Promise 3: faults of sense");
        sense("bid 5 a 1;", 0);
        sense("bid 10 a 1;", 0);
        sense("bid 0 aa 1;", 0);
        sense("bid 0 abcdefa 1;", 0);
        sense("bid 0 g 1;", 0);
        sense("bid 0 ag 1;", 0);
        sense("bid 0 ga 1;", 0);
        sense("bid 0 gg 1;", 0);
        sense("bid 0 z 1;", 0);
        sense("bid 0 a 0;", 0);
        sense("bid 0 a 00;", 0);
        sense("off 1;", 0);
        sense("off 10;", 0);
        sense("off 99;", 0);
        sense("kind 5 0 0;", 0);
        sense("kind 0 6 0;", 0);
        sense("kind 0 0 10;", 0);
        sense("keep g 0;", 0);
        sense("keep z 0;", 0);
        sense("keep a 10;", 0);
        sense("price 1 5;", 0);
        sense("price 0 0;", 0);
        sense("bid 1 b 2;off 2;", 10);
        sense("off 1;bid 1 b 2;", 0);
        sense("keep a 9;kind 0 5 9;price 0 99;off 0;keep a 10;", 37);
        BundlesOfBids x = new BundlesOfBids();
        for (int i = 0; i < 8; i++) {
            x.bids(1, 1, 1);
        }
        due("no room", Sales.hear(x, "bid 0 a 1;bid 0 b 2;bid 0 c 3;"), -2020);
        due("count(0)", x.count(0), 8);
        due("room for two", Sales.hear(x, "bid 0 a 1;bid 0 b 2;off 9;price 9 7;"), 4);
        due("count(0)", x.count(0), 10);
        due("count(1)", x.count(1), 511);
        due("bid(9,2)", x.bid(9, 2), 7);
        due("no room", Sales.hear(x, "bid 0 a 1;"), -2000);
    }

    private static void auctionIsAllOrNothing() {
        part("Promise 3: all or nothing");
        BundlesOfBids x = new BundlesOfBids();
        due("fault", Sales.hear(x, "bid 0 a 5;keep b 3;kind 1 2 3;off 0;price 0 9;off 9;"), -2046);
        due("count(0)", x.count(0), 0);
        due("count(2)", x.count(2), 0);
        due("bidder(1,0)", x.bidder(1, 0), 0);
        due("form is before sense", Sales.hear(x, "off 9;bid 0 a 1"), -1015);
        for (int what = 11; what <= 16; what++) {
            due("count(" + what + ")", x.count(what), 0);
        }
        due("the same without what is wrong", Sales.hear(x, "bid 0 a 5;keep b 3;kind 1 2 3;off 0;price 0 9;"), 5);
        due("count(0)", x.count(0), 1);
        due("count(1)", x.count(1), 0);
        due("count(2)", x.count(2), 3);
        due("bid(0,2)", x.bid(0, 2), 9);
        due("kind(1,0,0)", x.kind(1, 0, 0), 23);
    }

    private static void bids() {
        part("Promise 4: bids");
        BundlesOfBids x = new BundlesOfBids();
        due("least", x.bids(0, 1, 1), 0);
        due("most", x.bids(4, 63, 99), 1);
        due("bid(1,0)", x.bid(1, 0), 4);
        due("bid(1,1)", x.bid(1, 1), 63);
        due("bid(1,2)", x.bid(1, 2), 99);
        due("bid(1,3)", x.bid(1, 3), 1);
        due("bidder -1", x.bids(-1, 1, 1), -1);
        due("bidder 5", x.bids(5, 0, 0), -1);
        due("items 0", x.bids(0, 0, 100), -4);
        due("price 0", x.bids(0, 64, 0), -4);
        due("items -1", x.bids(0, -1, 1), -4);
        due("price -1", x.bids(0, 1, -1), -4);
        due("items 64", x.bids(0, 64, 1), -6);
        due("price 100", x.bids(0, 1, 100), -6);
        due("items most", x.bids(0, MOST_INT, 1), -6);
        due("price most", x.bids(0, 1, MOST_INT), -6);
        for (int i = 2; i < 10; i++) {
            due("bids " + i, x.bids(2, 2, 2), i);
        }
        due("no room", x.bids(0, 1, 1), -6);
        due("no room, but nobody", x.bids(5, 1, 1), -1);
        due("no room, but below", x.bids(0, 1, 0), -4);
        due("count(0)", x.count(0), 10);
        due("count(1)", x.count(1), 1023);
        due("count(11)", x.count(11), 3);
        due("count(14)", x.count(14), 5);
        due("count(16)", x.count(16), 5);
    }

    private static void turns() {
        part("Promise 5: turns");
        BundlesOfBids x = Sales.told(FIVE);
        due("turns(0)", x.turns(0), 0);
        due("bid(0,3)", x.bid(0, 3), 0);
        due("bid(0,5)", x.bid(0, 5), -9);
        due("winners(0)", x.winners(0), 22);
        due("winners(1)", x.winners(1), 26);
        due("count(1)", x.count(1), 30);
        due("turns(0)", x.turns(0), 1);
        due("winners(0)", x.winners(0), 17);
        due("turns(4)", x.turns(4), 0);
        due("turns(5)", x.turns(5), -1);
        due("turns(-1)", x.turns(-1), -1);
        due("turns(most)", x.turns(MOST_INT), -1);
        due("turns(least)", x.turns(LEAST_INT), -1);
        due("count(11)", x.count(11), 4);
    }

    private static void price() {
        part("Promise 6: price");
        BundlesOfBids x = Sales.told(FIVE);
        due("price(3,99)", x.price(3, 99), 14);
        due("price(3,1)", x.price(3, 1), 99);
        due("price(3,20)", x.price(3, 20), 1);
        due("winners(0): two of 29, the one with the least bits", x.winners(0), 10);
        due("price(3,14)", x.price(3, 14), 20);
        due("price(3,100)", x.price(3, 100), -6);
        due("price(3,0)", x.price(3, 0), -4);
        due("price(5,0)", x.price(5, 0), -1);
        due("price(-1,100)", x.price(-1, 100), -1);
        due("bid(3,2)", x.bid(3, 2), 14);
    }

    private static void kind() {
        part("Promise 7: kind");
        BundlesOfBids x = new BundlesOfBids();
        due("kind(0,5,9)", x.kind(0, 5, 9), 0);
        due("kind(0,3,2)", x.kind(0, 3, 2), 59);
        due("kind(4,1,0)", x.kind(4, 1, 0), 0);
        due("bidder(0,0)", x.bidder(0, 0), 3);
        due("bidder(0,1)", x.bidder(0, 1), 2);
        due("kind(5,6,-1)", x.kind(5, 6, -1), -1);
        due("kind(-1,0,0)", x.kind(-1, 0, 0), -1);
        due("kind(0,6,-1)", x.kind(0, 6, -1), -2);
        due("kind(0,-1,10)", x.kind(0, -1, 10), -2);
        due("kind(0,0,-1)", x.kind(0, 0, -1), -4);
        due("kind(0,0,10)", x.kind(0, 0, 10), -6);
        due("kind(0,0,0)", x.kind(0, 0, 0), 32);
    }

    private static void kindsSayWhatMayWin() {
        part("Promise 7: kinds");
        BundlesOfBids x = Sales.told("bid 0 a 10;bid 0 b 11;bid 0 cd 12;bid 0 e 13;");
        due("any", x.winners(0), 15);
        x.kind(0, 1, 0);
        due("one", x.winners(0), 8);
        due("one of two", x.may(3), 0);
        due("one of one", x.may(4), 1);
        x.kind(0, 2, 0);
        due("some of 0", x.winners(0), 0);
        x.kind(0, 2, 1);
        due("some of 1", x.winners(0), 8);
        x.kind(0, 2, 3);
        due("some of 3", x.winners(0), 14);
        x.kind(0, 2, 9);
        due("some of 9", x.winners(0), 15);
        x.kind(0, 3, 0);
        due("purse of 0", x.winners(0), 0);
        x.kind(0, 3, 1);
        due("purse of 10", x.winners(0), 1);
        x.kind(0, 3, 2);
        due("purse of 20", x.winners(0), 8);
        x.kind(0, 3, 3);
        due("purse of 30", x.winners(0), 12);
        x.price(0, 8);
        due("purse of 30, better as a whole", x.winners(0), 12);
        x.price(0, 6);
        due("purse of 30, just all of it", x.winners(0), 11);
        due("worth", x.winners(1), 30);
        x.kind(0, 4, 0);
        due("small of 0", x.winners(0), 0);
        x.price(2, 20);
        x.kind(0, 4, 1);
        due("small of 1", x.winners(0), 8);
        x.kind(0, 4, 2);
        due("small of 2", x.winners(0), 4);
        due("small is a one", x.may(9), 0);
        x.kind(0, 5, 0);
        due("proud of 0", x.winners(0), 0);
        x.kind(0, 5, 1);
        due("proud of 1", x.winners(0), 0);
        due("proud of 1, one", x.may(4), 0);
        due("proud of 1, none", x.may(0), 1);
        x.kind(0, 5, 2);
        due("proud of 2", x.winners(0), 12);
        due("proud of 2, three", x.may(7), 0);
        due("proud of 2, one", x.may(1), 0);
        x.kind(0, 5, 3);
        due("proud of 3", x.winners(0), 14);
        due("proud of 3, two", x.may(3), 1);
        due("kinds are by bidder", x.bids(1, 32, 5), 4);
        due("kinds are by bidder", x.winners(0), 30);
    }

    private static void keep() {
        part("Promise 8: keep");
        BundlesOfBids x = Sales.told(FIVE);
        due("keep(0,9)", x.keep(0, 9), 0);
        due("keep(0,4)", x.keep(0, 4), 9);
        due("keep(5,7)", x.keep(5, 7), 0);
        due("count(2)", x.count(2), 11);
        due("what is kept is worth", x.winners(1), 36);
        due("what is sold is not kept", x.winners(0), 17);
        due("keep(2,9)", x.keep(2, 9), 0);
        due("kept rather than sold for as much", x.winners(0), 1);
        due("worth", x.winners(1), 36);
        due("keep(6,-1)", x.keep(6, -1), -1);
        due("keep(-1,10)", x.keep(-1, 10), -1);
        due("keep(0,-1)", x.keep(0, -1), -4);
        due("keep(0,10)", x.keep(0, 10), -6);
        due("item(0,0)", x.item(0, 0), 4);
    }

    private static void bid() {
        part("Promise 9: bid");
        BundlesOfBids x = Sales.told(FIVE);
        int[][] dues = {{0, 3, 20, 1, 1, 0}, {1, 1, 9, 1, 0, 1}, {2, 2, 8, 1, 0, 3}, {3, 6, 14, 1, 0, 4},
            {1, 4, 9, 1, 1, 2}};
        for (int b = 0; b < dues.length; b++) {
            for (int what = 0; what < 6; what++) {
                due("bid(" + b + "," + what + ")", x.bid(b, what), dues[b][what]);
            }
        }
        due("bid(5,0)", x.bid(5, 0), -1);
        due("bid(5,6)", x.bid(5, 6), -1);
        due("bid(-1,0)", x.bid(-1, 0), -1);
        due("bid(0,6)", x.bid(0, 6), -2);
        due("bid(0,-1)", x.bid(0, -1), -2);
        x.turns(1);
        due("off has no place", x.bid(1, 5), -9);
        due("places close up", x.bid(4, 5), 1);
        BundlesOfBids y = Sales.told("bid 0 abc 10;bid 0 ab 7;bid 0 abcdef 20;bid 0 a 3;");
        due("3 and a third, first of alike ones", y.bid(0, 5), 1);
        due("3 and a half", y.bid(1, 5), 0);
        due("3 and a third", y.bid(2, 5), 2);
        due("3", y.bid(3, 5), 3);
    }

    private static void bidder() {
        part("Promise 10: bidder");
        BundlesOfBids x = Sales.told(FIVE);
        x.kind(1, 2, 7);
        int[][] dues = {{0, 0, 1, 20, 17}, {2, 7, 18, 9, 0}, {0, 0, 4, 0, 0}, {0, 0, 8, 0, 0}, {0, 0, 0, 0, 0}};
        for (int b = 0; b < 5; b++) {
            for (int what = 0; what < 5; what++) {
                due("bidder(" + b + "," + what + ")", x.bidder(b, what), dues[b][what]);
            }
        }
        x.turns(1);
        due("off ones, too", x.bidder(1, 2), 18);
        due("bidder(5,0)", x.bidder(5, 0), -1);
        due("bidder(-1,5)", x.bidder(-1, 5), -1);
        due("bidder(0,5)", x.bidder(0, 5), -2);
        due("bidder(0,-1)", x.bidder(0, -1), -2);
        BundlesOfBids y = Sales.told("bid 0 a 9;keep a 4;");
        due("harm is what the seller keeps it for", y.bidder(0, 4), 4);
    }

    private static void may() {
        part("Promise 11: may");
        BundlesOfBids x = Sales.told(FIVE);
        due("none", x.may(0), 1);
        due("0 and 4", x.may(17), 1);
        due("an item in common", x.may(3), 0);
        due("three", x.may(22), 1);
        x.turns(2);
        due("one is off", x.may(22), 0);
        due("all", x.may(31), 0);
        due("above", x.may(32), -6);
        due("most", x.may(MOST_INT), -6);
        due("below", x.may(-1), -4);
        due("least", x.may(LEAST_INT), -4);
        x.kind(1, 1, 0);
        due("two of a one", x.may(18), 0);
        for (int i = 5; i < 10; i++) {
            x.bids(4, 32, 1);
        }
        due("all ten", x.may(1023), 0);
        due("above ten", x.may(1024), -6);
    }

    private static void winners() {
        part("Promise 12: winners");
        BundlesOfBids x = Sales.told(FIVE);
        due("winners(0)", x.winners(0), 17);
        due("winners(1)", x.winners(1), 29);
        due("winners(2)", x.winners(2), 7);
        due("winners(3)", x.winners(3), 8);
        due("winners(4)", x.winners(4), -2);
        due("winners(-1)", x.winners(-1), -2);
        due("count(12)", x.count(12), 2);
        BundlesOfBids y = Sales.told("bid 0 a 99;bid 0 b 99;bid 1 c 99;bid 2 d 99;bid 3 e 99;bid 4 f 99;");
        due("the most worth", y.winners(1), 594);
        due("of all", y.winners(0), 63);
        due("all items", y.winners(2), 63);
    }

    private static void winnersTies() {
        part("Promise 12: ties");
        BundlesOfBids x = Sales.told("bid 0 a 10;bid 1 b 10;bid 2 ab 20;");
        due("least bids", x.winners(0), 4);
        BundlesOfBids y = Sales.told("bid 0 b 10;bid 1 ab 20;bid 2 a 10;bid 3 ab 20;");
        due("least bits", y.winners(0), 2);
        BundlesOfBids z = Sales.told("bid 0 a 5;keep a 5;");
        due("kept", z.winners(0), 0);
        due("kept", z.item(0, 1), -9);
    }

    private static void looked() {
        part("Promise 12: looked");
        BundlesOfBids x = Sales.told("bid 0 a 5;");
        due("root, with, end; without is below", x.winners(3), 3);
        x.keep(0, 5);
        due("without it is alike: looked at to its end", x.winners(3), 3);
        x.keep(0, 9);
        due("with it is below", x.winners(3), 3);
        BundlesOfBids y = Sales.told("bid 0 a 5;bid 1 b 5;");
        due("two", y.winners(3), 5);
        y.turns(0);
        due("off ones are not searched", y.winners(3), 3);
        y.turns(1);
        due("none", y.winners(3), 1);
        BundlesOfBids z = Sales.told("bid 0 abc 10;bid 1 a 3;");
        due("a third of a price", z.winners(3), 4);
        BundlesOfBids ten = new BundlesOfBids();
        for (int i = 0; i < 10; i++) {
            ten.bids(0, 1, 90 - i);
        }
        due("the first, then ten without, then one below", ten.winners(3), 12);
    }

    private static void rank() {
        part("Promise 13: rank");
        BundlesOfBids x = Sales.told(FIVE);
        int[] bits = {17, 22, 10, 1, 18, 6, 20, 8, 2, 16, 4, 0};
        int[] worths = {29, 26, 23, 20, 18, 17, 17, 14, 9, 9, 8, 0};
        for (int k = 0; k < bits.length; k++) {
            due("rank(" + k + ",0)", x.rank(k, 0), bits[k]);
            due("rank(" + k + ",1)", x.rank(k, 1), worths[k]);
        }
        due("rank(12,0)", x.rank(12, 0), -9);
        due("rank(12,1)", x.rank(12, 1), -9);
        due("rank(most,1)", x.rank(MOST_INT, 1), -9);
        due("rank(most,2)", x.rank(MOST_INT, 2), -2);
        due("rank(-1,2)", x.rank(-1, 2), -4);
        due("rank(least,0)", x.rank(LEAST_INT, 0), -4);
        due("rank(0,2)", x.rank(0, 2), -2);
        due("rank(0,-1)", x.rank(0, -1), -2);
        BundlesOfBids y = Sales.told("bid 0 b 10;bid 1 a 10;bid 2 ab 20;");
        due("least bids go ahead", y.rank(0, 0), 4);
        due("more bids behind", y.rank(1, 0), 3);
        due("least bits go ahead", y.rank(2, 0), 1);
        due("more bits behind", y.rank(3, 0), 2);
    }

    private static void item() {
        part("Promise 14: item");
        BundlesOfBids x = Sales.told(FIVE);
        x.keep(3, 6);
        int[][] dues = {{0, 0, 12, 2}, {0, 0, 11, 3}, {0, 4, 9, 2}, {6, -9, 6, 0}, {0, -9, 0, 0}, {0, -9, 0, 0}};
        for (int i = 0; i < 6; i++) {
            for (int what = 0; what < 4; what++) {
                due("item(" + i + "," + what + ")", x.item(i, what), dues[i][what]);
            }
        }
        x.turns(1);
        due("off ones are not counted", x.item(0, 3), 1);
        due("item(6,0)", x.item(6, 0), -1);
        due("item(-1,4)", x.item(-1, 4), -1);
        due("item(0,4)", x.item(0, 4), -2);
        due("item(0,-1)", x.item(0, -1), -2);
    }

    private static void rival() {
        part("Promise 15: rival");
        BundlesOfBids x = Sales.told(FIVE);
        int[][] dues = {{14, 0, 0}, {1, 1, 11}, {9, 1, 12}, {21, 17, 15}, {8, 0, 0}};
        for (int b = 0; b < 5; b++) {
            for (int what = 0; what < 3; what++) {
                due("rival(" + b + "," + what + ")", x.rival(b, what), dues[b][what]);
            }
        }
        x.turns(2);
        due("off ones are no rivals", x.rival(0, 0), 10);
        due("but have them", x.rival(2, 0), 9);
        due("and are outbid", x.rival(2, 2), 12);
        x.price(2, 99);
        due("below 0", x.rival(2, 2), 0);
        due("rival(5,0)", x.rival(5, 0), -1);
        due("rival(-1,3)", x.rival(-1, 3), -1);
        due("rival(0,3)", x.rival(0, 3), -2);
        due("rival(0,-1)", x.rival(0, -1), -2);
    }

    private static void of() {
        part("Promise 16: of");
        BundlesOfBids x = Sales.told(FIVE);
        due("of(31,0)", x.of(31, 0), 17);
        due("of(30,0)", x.of(30, 0), 22);
        due("of(30,1)", x.of(30, 1), 26);
        due("of(0,0)", x.of(0, 0), 0);
        due("of(9,1)", x.of(9, 1), 20);
        x.turns(0);
        due("off ones are none", x.of(9, 0), 8);
        x.keep(0, 3);
        due("what is kept counts", x.of(0, 1), 3);
        due("of(32,2)", x.of(32, 2), -6);
        due("of(-1,2)", x.of(-1, 2), -4);
        due("of(31,2)", x.of(31, 2), -2);
        due("of(31,-1)", x.of(31, -1), -2);
    }

    private static void pays() {
        part("Promise 17: pays");
        BundlesOfBids x = Sales.told(FIVE);
        int[][] dues = {{20, 17, 17}, {9, 0, 0}, {0, 0, 0}, {0, 0, 0}, {0, 0, 0}};
        for (int b = 0; b < 5; b++) {
            for (int how = 0; how < 3; how++) {
                due("pays(" + b + "," + how + ")", x.pays(b, how), dues[b][how]);
            }
        }
        due("pays(5,0)", x.pays(5, 0), -1);
        due("pays(-1,3)", x.pays(-1, 3), -1);
        due("pays(0,3)", x.pays(0, 3), -2);
        due("pays(0,-1)", x.pays(0, -1), -2);
        due("one for one", Sales.told("bid 0 a 1;bid 1 a 1;").pays(0, 1), 1);
        BundlesOfBids y = Sales.told(CHEAP);
        due("nobody is harmed", y.pays(1, 1), 0);
        due("nobody is harmed", y.pays(2, 1), 0);
        due("lifted", y.pays(1, 2), 10);
        due("not lifted", y.pays(2, 2), 0);
        due("nothing won", y.pays(0, 2), 0);
        BundlesOfBids z = Sales.told("bid 0 abc 15;bid 1 a 6;bid 2 b 6;bid 3 c 6;");
        due("by harm", z.pays(1, 1), 3);
        due("up to what it won", z.pays(1, 2), 6);
        due("one behind the other", z.pays(2, 2), 6);
        due("nothing is left", z.pays(3, 2), 3);
    }

    private static void blocksAndLifts() {
        part("Promises 18, 19: blocks, lifts");
        BundlesOfBids x = Sales.told(CHEAP);
        due("as bid nobody", x.blocks(0, 0), -9);
        due("as bid by nothing", x.blocks(0, 1), 0);
        due("by harm bidder 0", x.blocks(1, 0), 1);
        due("by 10", x.blocks(1, 1), 10);
        due("lifted nobody", x.blocks(2, 0), -9);
        due("lifted by nothing", x.blocks(2, 1), 0);
        due("lifts()", x.lifts(), 1);
        due("blocks(3,0)", x.blocks(3, 0), -2);
        due("blocks(-1,0)", x.blocks(-1, 0), -2);
        due("blocks(0,2)", x.blocks(0, 2), -2);
        due("blocks(0,-1)", x.blocks(0, -1), -2);
        due("count(12)", x.count(12), 4);
        x.keep(0, 2);
        x.keep(5, 9);
        due("what stays unsold is no gain", x.blocks(1, 1), 8);
        BundlesOfBids y = Sales.told(FIVE);
        due("nobody", y.blocks(1, 0), -9);
        due("lifts()", y.lifts(), 0);
        BundlesOfBids z = Sales.told("bid 3 ab 10;bid 1 a 10;bid 2 b 10;bid 4 ab 10;");
        due("of several the least", z.blocks(1, 0), 8);
        z.turns(0);
        due("bidder 4", z.blocks(1, 0), 16);
        BundlesOfBids w = Sales.told("bid 0 a 10;bid 1 b 10;bid 2 c 10;bid 3 d 10;bid 4 ab 10;bid 4 cd 10;");
        // First bidder 4 blocks by 20, which 0 and 1 pay; then 0, 1 and 4 by 10, which 2 pays.
        due("bidder 4", w.blocks(1, 0), 16);
        due("by most", w.blocks(1, 1), 20);
        due("lifted twice", w.lifts(), 2);
        due("0 pays", w.pays(0, 2), 10);
        due("1 pays", w.pays(1, 2), 10);
        due("2 pays", w.pays(2, 2), 10);
        due("3 pays", w.pays(3, 2), 0);
        w.kind(4, 1, 0);
        due("with others: 16 and 17, 18 block by as much", w.blocks(1, 0), 16);
        due("by less", w.blocks(1, 1), 10);
    }

    private static void group() {
        part("Promise 20: group");
        BundlesOfBids x = Sales.told(FIVE);
        due("group(0,0)", x.group(0, 0), 0);
        due("group(0,1)", x.group(0, 1), 0);
        due("group(0,3)", x.group(0, 3), 0);
        due("group(31,0)", x.group(31, 0), 29);
        due("group(31,1)", x.group(31, 1), 17);
        due("group(31,2)", x.group(31, 2), 29);
        due("group(31,3)", x.group(31, 3), 0);
        due("group(31,4)", x.group(31, 4), 17);
        due("group(6,0)", x.group(6, 0), 26);
        due("group(6,1)", x.group(6, 1), 22);
        due("group(6,2)", x.group(6, 2), 9);
        due("group(6,3)", x.group(6, 3), 0);
        due("group(3,2)", x.group(3, 2), 29);
        due("group(3,3)", x.group(3, 3), 14);
        due("group(3,4)", x.group(3, 4), 17);
        x.keep(0, 5);
        due("harm of all is what was kept back", x.group(31, 3), 5);
        due("group(32,5)", x.group(32, 5), -6);
        due("group(-1,5)", x.group(-1, 5), -4);
        due("group(0,5)", x.group(0, 5), -2);
        due("group(0,-1)", x.group(0, -1), -2);
        due("count(12)", x.count(12), 2);
    }

    private static void envy() {
        part("Promise 21: envy");
        BundlesOfBids x = Sales.told(CHEAP);
        due("0 for 1", x.envy(0, 1), 0);
        BundlesOfBids y = Sales.told("bid 0 a 10;bid 0 b 4;bid 1 a 7;bid 2 b 9;bid 2 c 1;");
        // Winners: bid 0 (10), bid 3 (9), bid 4 (1); bidder 0 pays 7, bidder 2 pays 4.
        due("winners", y.winners(0), 25);
        due("0 pays", y.pays(0, 1), 7);
        due("2 pays", y.pays(2, 1), 4);
        due("0 for 2: 4 less 4 less 3", y.envy(0, 2), 0);
        due("1 for 0: 7 less 7", y.envy(1, 0), 0);
        due("2 for 0", y.envy(2, 0), 0);
        // The bids of a purse keep it from winning what it would have liked better.
        BundlesOfBids z = Sales.told("kind 0 1 0;bid 0 a 9;bid 0 bc 10;bid 1 bc 12;bid 2 a 6;");
        due("winners", z.winners(0), 5);
        due("0 pays", z.pays(0, 1), 6);
        due("1 pays", z.pays(1, 1), 7);
        due("0 for 1: 10 less 7 less 3", z.envy(0, 1), 0);
        z.price(1, 11);
        due("1 pays", z.pays(1, 1), 8);
        due("0 for 1: 11 less 8 less 3", z.envy(0, 1), 0);
        // Bidder 1 wins b and c and pays less than bidder 0 would have given for them.
        BundlesOfBids w = Sales.told("kind 0 4 1;bid 0 b 5;bid 0 bc 9;bid 1 b 8;bid 1 c 6;");
        due("winners", w.winners(0), 12);
        due("1 pays", w.pays(1, 1), 5);
        due("a small may not have both", w.envy(0, 1), 0);
        w.kind(0, 0, 0);
        due("1 pays", w.pays(1, 1), 9);
        due("no envy by harm of all", w.envy(0, 1), 0);
        proudEnvy();
        due("envy(0,0)", w.envy(0, 0), -1);
        due("envy(5,0)", w.envy(5, 0), -1);
        due("envy(0,5)", w.envy(0, 5), -1);
        due("envy(-1,0)", w.envy(-1, 0), -1);
        due("envy(0,-1)", w.envy(0, -1), -1);
        due("count(11)", w.count(11), 5);
    }

    private static void proudEnvy() {
        // Bidder 0 may have one of c and a: with c outbid nearly it takes a.
        BundlesOfBids x = Sales.told("kind 0 1 0;bid 0 c 20;bid 0 a 9;bid 1 a 5;bid 1 b 5;bid 2 c 19;");
        due("worth", x.winners(1), 33);
        due("winners are 1, 3, 4", x.winners(0), 26);
        x.price(4, 12);
        due("worth", x.winners(1), 30);
        due("winners are 0, 2, 3", x.winners(0), 13);
        due("0 pays", x.pays(0, 1), 12);
        due("1 pays", x.pays(1, 1), 1);
        due("0 has 8 now; 9 for a less 1 is 8", x.envy(0, 1), 0);
        x.price(1, 10);
        due("0 pays", x.pays(0, 1), 12);
        due("1 pays", x.pays(1, 1), 2);
        due("0 for 1: 10 less 2 less 8", x.envy(0, 1), 0);
        x.bids(0, 2, 9);
        due("0 may still have one", x.envy(0, 1), 0);
        // A PROUD wins nothing of one bid alone: bidder 1 pays nothing for what 0 wants in two.
        BundlesOfBids y = Sales.told("kind 0 5 2;bid 0 a 4;bid 0 b 4;bid 1 ab 9;bid 2 a 6;");
        due("winners", y.winners(0), 4);
        due("1 pays", y.pays(1, 1), 8);
        due("0 for 1", y.envy(0, 1), 0);
        // The purse lets bidder 0 have a or b. Without 1 it would have a: so 1 pays little for it.
        BundlesOfBids z = Sales.told("kind 0 3 1;bid 0 a 10;bid 0 b 10;bid 1 a 12;bid 1 b 3;bid 2 b 2;");
        due("winners", z.winners(0), 6);
        due("0 pays 3", z.pays(0, 1), 3);
        due("1 pays 2", z.pays(1, 1), 2);
        due("0 for 1: 10 less 2 less 7", z.envy(0, 1), 1);
        due("1 for 0: 3 less 3 less 10", z.envy(1, 0), 0);
        z.turns(0);
        due("a bid that is off is not wished", z.envy(0, 1), 0);
    }

    private static void gain() {
        part("Promise 22: gain");
        BundlesOfBids x = Sales.told(FIVE);
        due("gain(0)", x.gain(0), 0);
        due("gain(1)", x.gain(1), -3);
        BundlesOfBids y = Sales.told("bid 0 a 30;bid 0 b 30;bid 0 ab 40;bid 1 ab 50;");
        due("gain(0)", y.gain(0), 10);
        due("gain(1)", y.gain(1), 0);
        BundlesOfBids z = Sales.told("kind 0 1 0;bid 0 a 10;bid 0 b 8;bid 1 ab 12;");
        due("a one loses", z.winners(0), 4);
        due("its shills win: 10 less 4 and 8 less 2", z.gain(0), 12);
        due("the kind stays", z.bidder(0, 0), 1);
        due("gain(5)", z.gain(5), -100001);
        due("gain(-1)", z.gain(-1), -100001);
        due("count(11)", z.count(11), 2);
    }

    private static void without() {
        part("Promise 23: without");
        BundlesOfBids x = Sales.told(FIVE);
        int[] dues = {26, 29, 29, 29, 23};
        for (int b = 0; b < 5; b++) {
            due("without(" + b + ")", x.without(b), dues[b]);
        }
        x.turns(0);
        due("off already", x.without(0), 26);
        x.keep(0, 9);
        due("what is kept counts", x.without(1), 26);
        due("without(5)", x.without(5), -1);
        due("without(-1)", x.without(-1), -1);
    }

    private static void least() {
        part("Promise 24: least");
        BundlesOfBids x = Sales.told(FIVE);
        int[] dues = {17, 13, 12, 20, 4};
        for (int b = 0; b < 5; b++) {
            due("least(" + b + ")", x.least(b), dues[b]);
        }
        x.turns(0);
        due("on then", x.least(0), 17);
        due("but off still", x.bid(0, 3), 0);
        due("its price stays", x.bid(0, 2), 20);
        BundlesOfBids y = Sales.told("bid 0 a 99;bid 1 a 98;kind 2 1 0;bid 2 ab 5;kind 3 2 0;bid 3 c 9;");
        due("even the most is too little against less bits", y.least(1), -9);
        due("alike with less bits", y.least(0), 98);
        due("one bid, more items", y.least(2), -9);
        due("may win none", y.least(3), -9);
        BundlesOfBids z = Sales.told("kind 0 3 2;bid 0 a 50;bid 1 a 10;");
        due("within the purse", z.least(0), 10);
        z.kind(0, 3, 1);
        due("of alike ones the least bits", z.least(0), 10);
        due("behind it", z.least(1), 1);
        due("least(2)", z.least(2), -1);
        due("the most", Sales.told("bid 0 a 98;bid 1 a 1;").least(1), 99);
        due("least(-1)", z.least(-1), -1);
    }

    private static void tight() {
        part("Promise 25: tight");
        BundlesOfBids x = Sales.told(CHEAP);
        due("neither", x.tight(), 0);
        x.price(0, 18);
        due("19 is above 18", x.tight(), 0);
        x.price(0, 19);
        due("19 with less bids is not below", x.tight(), 6);
        BundlesOfBids y = Sales.told("bid 0 a 9;bid 1 a 9;");
        due("as much, but less bits", y.tight(), 1);
        BundlesOfBids z = Sales.told("bid 0 a 1;");
        due("nothing is as good as a bid of nothing", z.tight(), 1);
        due("its price stays", z.bid(0, 2), 1);
        due("none", new BundlesOfBids().tight(), 0);
    }

    private static void missing() {
        part("Promise 26: missing");
        BundlesOfBids x = Sales.told(FIVE);
        CHECKS.fraction("bid 0", x.missing(0, 3, 0), x.missing(0, 3, 1), 46, 81);
        CHECKS.fraction("bid 3", x.missing(3, 3, 0), x.missing(3, 3, 1), 2, 9);
        BundlesOfBids y = Sales.told("bid 0 a 5;bid 1 a 4;");
        CHECKS.fraction("the first comes", y.missing(0, 2, 0), y.missing(0, 2, 1), 1, 2);
        CHECKS.fraction("the other one doesn't", y.missing(1, 2, 0), y.missing(1, 2, 1), 1, 4);
        CHECKS.fraction("1 in 20", y.missing(1, 20, 0), y.missing(1, 20, 1), 19, 400);
        y.keep(0, 4);
        CHECKS.fraction("never", y.missing(1, 20, 0), y.missing(1, 20, 1), 0, 1);
        y.turns(0);
        CHECKS.fraction("off", y.missing(0, 2, 0), y.missing(0, 2, 1), 0, 1);
        BundlesOfBids z = new BundlesOfBids();
        for (int i = 0; i < 10; i++) {
            z.bids(0, 1, 99 - i);
        }
        CHECKS.fraction("the last of ten", z.missing(9, 20, 0), z.missing(9, 20, 1), 19, 10240000000000L);
        CHECKS.fraction("the first of ten", z.missing(0, 20, 0), z.missing(0, 20, 1), 19, 20);
        due("nobody", x.missing(5, 1, 2), LONG_REFUSAL + 1);
        due("nobody", x.missing(-1, 21, 2), LONG_REFUSAL + 1);
        due("below", x.missing(0, 1, 2), LONG_REFUSAL + 4);
        due("room", x.missing(0, 21, 2), LONG_REFUSAL + 6);
        due("other", x.missing(0, 20, 2), LONG_REFUSAL + 2);
        due("other", x.missing(0, 2, -1), LONG_REFUSAL + 2);
        due("count(11)", x.count(11), 2);
        due("count(12)", x.count(12), 2);
        due("count(14)", x.count(14), 1);
        due("count(16)", x.count(16), 1);
    }

    private static void mean() {
        part("Promise 27: mean");
        BundlesOfBids x = Sales.told(FIVE);
        CHECKS.fraction("as bid", x.mean(0, 0), x.mean(0, 1), 29, 2);
        CHECKS.fraction("by harm", x.mean(1, 0), x.mean(1, 1), 17, 2);
        CHECKS.fraction("lifted", x.mean(2, 0), x.mean(2, 1), 17, 2);
        BundlesOfBids y = Sales.told(CHEAP);
        CHECKS.fraction("as bid", y.mean(0, 0), y.mean(0, 1), 10, 1);
        CHECKS.fraction("nothing", y.mean(1, 0), y.mean(1, 1), 0, 1);
        CHECKS.fraction("lifted", y.mean(2, 0), y.mean(2, 1), 5, 1);
        due("mean(3,2)", x.mean(3, 2), LONG_REFUSAL + 2);
        due("mean(-1,0)", x.mean(-1, 0), LONG_REFUSAL + 2);
        due("mean(0,2)", x.mean(0, 2), LONG_REFUSAL + 2);
        due("mean(0,-1)", x.mean(0, -1), LONG_REFUSAL + 2);
        due("count(12)", x.count(12), 4);
    }

    private static void printed() {
        part("Promise 28: printed");
        CHECKS.prints(new BundlesOfBids(), "/0");
        CHECKS.prints(Sales.told(FIVE), "0:ab=20;1:c=9/29");
        CHECKS.prints(Sales.told("keep a 9;keep b 9;bid 0 a 8;"), "/18");
        CHECKS.prints(Sales.told("bid 4 fca 7;"), "4:acf=7/7");
        CHECKS.prints(Sales.told("bid 0 f 99;bid 1 e 98;bid 2 d 97;bid 3 c 96;bid 4 b 95;bid 0 a 94;"),
            "0:f=99;1:e=98;2:d=97;3:c=96;4:b=95;0:a=94/579");
        BundlesOfBids x = Sales.told("bid 0 a 50;bid 0 b 50;");
        CHECKS.prints(x, "0:a=50;0:b=50/100");
        CHECKS.prints(Sales.told("bid 0 a 99;bid 0 b 99;"), "0:a=99;0:b=99/198");
        due("printed(most)", x.printed(MOST_INT), -9);
        due("printed(-2)", x.printed(-2), -4);
        due("printed(least)", x.printed(LEAST_INT), -4);
        due("count(14)", x.count(14), 2);
    }

    private static void whatIs() {
        part("Promise 29: whatIs");
        // As ANY bidder 0 wins both and pays 5 and 3; as a ONE it wins b alone and pays 3.
        BundlesOfBids x = Sales.told("bid 0 a 9;bid 0 b 8;bid 1 a 5;bid 2 b 3;");
        due("of none all is so", x.whatIs(0, 0), 63);
        due("of none all is so", x.whatIs(0, 1), 1023);
        x.row(8);
        due("ANY alone, the figure is 0", x.whatIs(0, 0), 1);
        due("ANY by any figure", x.whatIs(0, 1), 1023);
        x.kind(0, 2, 2);
        due("ANY, SOME, PURSE, PROUD", x.whatIs(0, 0), 1 + 4 + 8 + 32);
        due("SOME by 2 or more", x.whatIs(0, 1), 1020);
        x.row(0);
        due("0 too", x.whatIs(0, 0), 1 + 4 + 8 + 32);
        due("the row stays", x.count(5), 2);
        x.row(7);
        due("all of it", x.whatIs(0, 0), 0);
        due("the kind stays", x.bidder(0, 0), 2);
        due("the figure stays", x.bidder(0, 1), 2);
        x.clear();
        x.row(3);
        due("ONE and SMALL", x.whatIs(0, 0), 2 + 16);
        due("SOME by 1", x.whatIs(0, 1), 2);
        due("whatIs(5,2)", x.whatIs(5, 2), -1);
        due("whatIs(-1,0)", x.whatIs(-1, 0), -1);
        due("whatIs(0,2)", x.whatIs(0, 2), -2);
        due("whatIs(0,-1)", x.whatIs(0, -1), -2);
    }

    private static void rowJudgeClear() {
        part("Promises 30, 31, 32: row, judge, clear");
        BundlesOfBids x = Sales.told(FIVE);
        due("row(-1)", x.row(-1), -4);
        due("row(100)", x.row(100), -6);
        due("row(20)", x.row(20), 1);
        due("row(99)", x.row(99), 2);
        due("row(0)", x.row(0), 3);
        due("count(5)", x.count(5), 3);
        due("clear()", x.clear(), 3);
        due("clear()", x.clear(), 0);
        due("of none all is so", x.judge(0), -9);
        x.row(20);
        x.row(9);
        due("judge(3)", x.judge(3), -2);
        due("judge(-1)", x.judge(-1), -2);
        due("the row stays", x.count(5), 2);
        due("as bid", x.judge(0), -9);
        due("the row has none", x.count(5), 0);
        x.row(17);
        x.row(0);
        x.row(0);
        x.row(0);
        due("five", x.row(0), 5);
        due("six", x.row(0), -6);
        due("six, below", x.row(-1), -4);
        due("by harm", x.judge(1), -9);
        x.row(17);
        x.row(9);
        x.row(1);
        due("the first that is not so", x.judge(1), 1);
        due("the row has none", x.count(5), 0);
        BundlesOfBids y = Sales.told(CHEAP);
        y.row(0);
        y.row(10);
        y.row(0);
        due("lifted", y.judge(2), -9);
        y.row(0);
        y.row(0);
        y.row(5);
        due("lifted", y.judge(2), 1);
    }

    private static void lots() {
        part("Promise 33: lots");
        BundlesOfBids x = Sales.told("bid 0 a 5;");
        // z = 1 becomes 1015568748: by 256, cut, 3967065; modulo 99 is 36. Then 1586005467: 6195333; 12.
        due("one", x.lots(1, 1, 0), 37);
        due("two", x.lots(2, 1, 0), 37 + 13);
        due("nothing by harm", x.lots(2, 1, 1), 0);
        due("the price stays", x.bid(0, 2), 5);
        x.keep(0, 9);
        due("by harm what is kept", x.lots(2, 1, 1), 18);
        x.turns(0);
        due("off ones are drawn for, but don't win", x.lots(3, 1, 0), 27);
        x.bids(1, 1, 1);
        due("the second draw is its own", x.lots(1, 1, 0), 13);
        // z = -1 becomes 1012239698: 3954061; modulo 99 is 1.
        due("a seed below 0", Sales.told("bid 0 a 5;").lots(1, -1, 0), 2);
        // z = 3 becomes 1018897798: 3980069; 71. Then -2087155283 with the sign's bit off 60328365: 235657; 37.
        due("a draw below 0", Sales.told("bid 0 a 5;").lots(2, 3, 0), drawnTwice(3));
        due("lots(0,1,2)", x.lots(0, 1, 2), -4);
        due("lots(21,1,2)", x.lots(21, 1, 2), -6);
        due("lots(1,1,2)", x.lots(1, 1, 2), -2);
        due("lots(1,1,-1)", x.lots(1, 1, -1), -2);
        due("lots(least,1,0)", x.lots(LEAST_INT, 1, 0), -4);
        due("lots(most,1,0)", x.lots(MOST_INT, 1, 0), -6);
    }

    private static int drawnTwice(int seed) {
        long z = seed;
        int sum = 0;
        for (int i = 0; i < 2; i++) {
            z = (z * 1664525L + 1013904223L) & 0xffffffffL;
            sum += 1 + (int) ((z & 0x7fffffffL) / 256 % 99);
        }
        return sum;
    }

    private static void imageAndOn() {
        part("Promises 34, 35: image, on");
        BundlesOfBids x = Sales.told(FIVE);
        due("none yet", x.on(), -3);
        x.keep(1, 3);
        x.kind(2, 5, 4);
        x.turns(3);
        due("image()", x.image(), 5);
        x.row(7);
        x.letter('b');
        x.bids(4, 63, 99);
        x.keep(1, 8);
        x.kind(2, 1, 1);
        x.turns(3);
        x.price(0, 1);
        due("on()", x.on(), 5);
        due("count(0)", x.count(0), 5);
        due("count(1)", x.count(1), 23);
        due("count(2)", x.count(2), 3);
        due("bidder(2,0)", x.bidder(2, 0), 5);
        due("bidder(2,1)", x.bidder(2, 1), 4);
        due("bidder(4,2)", x.bidder(4, 2), 0);
        due("bid(0,2)", x.bid(0, 2), 20);
        due("bid(5,0)", x.bid(5, 0), -1);
        due("the row is not in it", x.count(5), 1);
        due("nor letters", x.count(6), 1);
        due("nor refusals", x.count(13), 1);
        due("nor refusals", x.count(11), 1);
        x.price(0, 2);
        due("on again", x.on(), 5);
        due("bid(0,2)", x.bid(0, 2), 20);
        x.price(0, 3);
        due("another image", x.image(), 5);
        x.price(0, 4);
        due("on from the last", x.on(), 5);
        due("bid(0,2)", x.bid(0, 2), 3);
        BundlesOfBids y = new BundlesOfBids();
        due("an image of nothing", y.image(), 0);
        y.bids(0, 1, 1);
        due("on from nothing", y.on(), 0);
        due("count(0)", y.count(0), 0);
        due("numbers begin anew", y.bids(3, 2, 1), 0);
        due("bidder(0,2)", y.bidder(0, 2), 0);
    }

    private static void count() {
        part("Promise 36: count");
        BundlesOfBids x = Sales.told(FIVE);
        x.turns(1);
        x.keep(4, 2);
        x.keep(5, 9);
        x.row(1);
        x.letter('x');
        x.letter('y');
        int[] dues = {5, 29, 11, 3, 51, 1, 2, -9, -9, -9, -9, 0, 0, 0, 0, 0, 0, -9};
        for (int what = 0; what < dues.length; what++) {
            due("count(" + what + ")", x.count(what), dues[what]);
        }
        due("count(-1)", x.count(-1), -9);
        due("count(most)", x.count(MOST_INT), -9);
        due("count(least)", x.count(LEAST_INT), -9);
        x.on();
        x.turns(9);
        x.winners(9);
        x.winners(9);
        x.row(-1);
        x.row(100);
        due("NOBODY", x.count(11), 1);
        due("OTHER", x.count(12), 2);
        due("STATE", x.count(13), 1);
        due("BELOW", x.count(14), 1);
        due("there is no -5", x.count(15), 0);
        due("ROOM", x.count(16), 1);
    }
}
