/**
 * Promise 3, auction, and what the document's "AUCTION" says word by word: each place of each statement by
 * each letter, each number by each number of one or two digits, and each fault where it is told to be.
 */
public final class TextEdgesTest {
    private static final Checks CHECKS = new Checks();
    private static final int FORM = -1000;
    private static final int SENSE = -2000;
    private static final String[] RIGHT = {"bid 0 ab 12;", "off 0;", "kind 1 2 3;", "keep c 4;", "price 0 56;"};
    private static final String SIXTEEN_LESS_ONE = "off 0;off 0;off 0;off 0;off 0;off 0;off 0;off 0;"
        + "off 0;off 0;off 0;off 0;off 0;off 0;off 0;";

    public static void main(String[] args) {
        atLeastOneStatement();
        lettersOfAText();
        wordsThatAreNone();
        blanks();
        itemsOfABid();
        itemOfKeep();
        numbersOfOneOrTwoDigits();
        numbersAreBounded();
        endOfAStatement();
        somethingLacks();
        everyLetterAtEveryPlace();
        faultOfTheFirstStatement();
        behindAllAheadOfIt();
        formBeforeSense();
        withFaultNothingComes();
        offAndToldAgain();
        CHECKS.end("TextEdgesTest");
    }

    /** What an auction answers in a sale of one BID, number 0. */
    private static int heard(String text) {
        BundlesOfBids x = new BundlesOfBids();
        x.bids(0, 1, 1);
        return Sales.hear(x, text);
    }

    private static void due(String text, int want) {
        CHECKS.due("'" + text + "'", heard(text), want);
    }

    private static void form(String text, int place) {
        due(text, FORM - place);
    }

    private static void atLeastOneStatement() {
        CHECKS.part("Promise 3: at least one STATEMENT");
        form("", 0);
        form(";", 0);
        form(" ", 0);
        due("off 0;", 1);
        due("off 0;off 0;", 2);
        BundlesOfBids x = new BundlesOfBids();
        CHECKS.due("auction() of no letters", x.auction(), -1000);
        CHECKS.due("auction() of no letters again", x.auction(), -1000);
        for (int what = 11; what <= 16; what++) {
            CHECKS.due("a FAULT is not counted: count(" + what + ")", x.count(what), 0);
        }
    }

    private static void lettersOfAText() {
        CHECKS.part("Promises 2, 3: 96 letters at most");
        due(SIXTEEN_LESS_ONE + "off 0;", 16);
        due(SIXTEEN_LESS_ONE, 15);
        form(SIXTEEN_LESS_ONE + "off 00", 96);
        form(SIXTEEN_LESS_ONE + "off 0", 95);
        form(SIXTEEN_LESS_ONE + "off 0 ", 95);
        form(SIXTEEN_LESS_ONE + "bid 0 ", 96);
        form(SIXTEEN_LESS_ONE + "abcdef", 90);
        // The 97th letter is refused: without it the text lacks its end.
        BundlesOfBids x = new BundlesOfBids();
        x.bids(0, 1, 1);
        Sales.send(x, SIXTEEN_LESS_ONE + "off 00");
        CHECKS.due("letter 97", x.letter(';'), -6);
        CHECKS.due("count(6)", x.count(6), 96);
        CHECKS.due("auction() without it", x.auction(), FORM - 96);
        CHECKS.due("letters are no more", x.count(6), 0);
        // A refused letter comes nowhere into the text.
        Sales.send(x, "off");
        CHECKS.due("letter(256)", x.letter(256), -6);
        CHECKS.due("letter(-1)", x.letter(-1), -4);
        CHECKS.due("letter(288), a blank and 256", x.letter(288), -6);
        Sales.send(x, " 0;");
        CHECKS.due("count(6)", x.count(6), 6);
        CHECKS.due("auction()", x.auction(), 1);
        CHECKS.due("96 letters again", Sales.hear(x, SIXTEEN_LESS_ONE + "off 0;"), 16);
        String letters26 = "abcdefghijklmnopqrstuvwxyz";
        due("bid 0 " + letters26 + letters26 + letters26 + " 12345;", FORM - 87);
        due("bid 0 " + letters26 + letters26 + letters26 + " 12;", SENSE);
        form("bid 0 " + letters26 + letters26 + letters26 + "abcdefghijkl", 96);
        form(letters26 + letters26 + letters26 + "abcdefghijklmnopqr", 0);
    }

    private static void wordsThatAreNone() {
        CHECKS.part("Promise 3: of a WORD that is none the place where it begins");
        String[] none = {"b", "bi", "bids", "bidd", "bidoff", "abid", "o", "of", "offf", "offs", "kin", "kinds", "kee",
            "keeps", "keepa", "pric", "prices", "a", "z", "g", "is", "at"};
        for (String word : none) {
            form(word, 0);
            form(word + " 0 a 1;", 0);
            form(word + ";", 0);
            form(word + "0", 0);
            form("off 0;" + word, 6);
            form("off 0;" + word + " 0;", 6);
            form("off 0;keep a 5;" + word + " 0;off 0;", 15);
        }
        String[] capitals = {"Bid", "OFF", "Kind", "Keep", "Price"};
        for (String word : capitals) {
            form(word + " 0 a 1;", 0);
            form("off 0;" + word + " 0 a 1;", 6);
        }
        CHECKS.part("Promise 3: a WORD is as many letters a .. z as stand there");
        form("bidA 0 a 1;", 3);
        form("bid", 3);
        form("off", 3);
        form("kind", 4);
        form("keep", 4);
        form("price", 5);
        form("bI", 0);
        form("bid`", 3);
        form("bid{", 3);
        form("bi{", 0);
        form("of;", 0);
        form("pric 0 1;", 0);
        form("offkeep a 1;", 0);
    }

    private static void blanks() {
        CHECKS.part("Promise 3: one blank between");
        form(" off 0;", 0);
        form("off  0;", 4);
        form("off0;", 3);
        form("off 0 ;", 5);
        form("off 0; off 0;", 6);
        form("off 0;  off 0;", 6);
        form("off 0; ", 6);
        form("bid  0 a 1;", 4);
        form("bid 0  a 1;", 6);
        form("bid 0a 1;", 5);
        form("bid 0 a  1;", 8);
        form("bid 0 a1;", 7);
        form("bid 0 a 1 ;", 9);
        form("bid 0 a b 1;", 8);
        form("kind 0  1 2;", 7);
        form("kind 0 1  2;", 9);
        form("kind 01 2;", 9);
        form("keep  a 1;", 5);
        form("keep a  1;", 7);
        form("keep a1;", 6);
        form("price 0  1;", 8);
        form("off\t0;", 3);
        form("off" + (char) 160 + "0;", 3);
        form("off" + (char) 0 + "0;", 3);
        form("off" + (char) 31 + "0;", 3);
        form("off!0;", 3);
    }

    private static void itemsOfABid() {
        CHECKS.part("Promise 3: ITEMS: letters a .. z, one or more, any of them");
        for (int set = 1; set < 64; set++) {
            StringBuilder letters = new StringBuilder();
            for (int i = 0; i < 6; i++) {
                letters.append((set >> i & 1) == 1 ? String.valueOf((char) ('a' + i)) : "");
            }
            bidComes(letters.toString(), set);
            bidComes(letters.reverse().toString(), set);
        }
        CHECKS.part("Promise 3: an ITEM twice, an ITEM above f");
        for (char one = 'a'; one <= 'z'; one++) {
            due("bid 0 " + one + " 1;", one <= 'f' ? 1 : SENSE);
            for (char other = 'a'; other <= 'z'; other++) {
                boolean right = one <= 'f' && other <= 'f' && one != other;
                due("bid 0 " + one + other + " 1;", right ? 1 : SENSE);
                due("off 0;bid 0 " + one + other + one + " 1;", SENSE - 6);
            }
        }
        due("bid 0 abcdef 1;", 1);
        due("bid 0 abcdefa 1;", SENSE);
        due("bid 0 aabcdef 1;", SENSE);
        due("bid 0 abcdeff 1;", SENSE);
        due("bid 0 abcdefg 1;", SENSE);
        due("bid 0 gabcdef 1;", SENSE);
        form("bid 0  1;", 6);
        form("bid 0 ` 1;", 6);
        form("bid 0 { 1;", 6);
        form("bid 0 a` 1;", 7);
        form("bid 0 a{ 1;", 7);
        form("bid 0 A 1;", 6);
        form("bid 0 1 1;", 6);
        form("bid 0 a,b 1;", 7);
    }

    private static void bidComes(String letters, int set) {
        BundlesOfBids x = new BundlesOfBids();
        CHECKS.due("'bid 3 " + letters + " 44;'", Sales.hear(x, "bid 3 " + letters + " 44;"), 1);
        CHECKS.due("its BIDDER", x.bid(0, 0), 3);
        CHECKS.due("its SET", x.bid(0, 1), set);
        CHECKS.due("its PRICE", x.bid(0, 2), 44);
        CHECKS.due("it is ON", x.bid(0, 3), 1);
    }

    private static void itemOfKeep() {
        CHECKS.part("Promise 3: ITEM: a letter a .. z; above f kind 2");
        for (char item = 'a'; item <= 'z'; item++) {
            due("keep " + item + " 9;", item <= 'f' ? 1 : SENSE);
            due("off 0;keep " + item + " 0;", item <= 'f' ? 2 : SENSE - 6);
            form("keep " + item + item + " 1;", 6);
        }
        for (int i = 0; i < 6; i++) {
            BundlesOfBids x = Sales.told("keep " + (char) ('a' + i) + " 7;");
            for (int other = 0; other < 6; other++) {
                CHECKS.due("item(" + other + ",0)", x.item(other, 0), other == i ? 7 : 0);
            }
        }
        form("keep ` 1;", 5);
        form("keep { 1;", 5);
        form("keep 0 1;", 5);
        form("keep A 1;", 5);
        form("keep  1;", 5);
    }

    private static void numbersOfOneOrTwoDigits() {
        CHECKS.part("Promise 3: numbers: 1 or 2 digits");
        form("off ;", 4);
        due("off 0;", 1);
        due("off 00;", 1);
        form("off 000;", 6);
        form("off 100;", 6);
        form("off /;", 4);
        form("off :;", 4);
        form("off 0/;", 5);
        form("off 0:;", 5);
        form("off -0;", 4);
        form("off +0;", 4);
        form("off 0.0;", 5);
        form("off 0x;", 5);
        form("bid 000 a 1;", 6);
        form("bid 0 a 001;", 10);
        form("kind 000 0 0;", 7);
        form("kind 0 000 0;", 9);
        form("kind 0 0 000;", 11);
        form("keep a 000;", 9);
        form("price 000 1;", 8);
        form("price 0 001;", 10);
    }

    private static void numbersAreBounded() {
        CHECKS.part("Promise 3: no such BIDDER, BID, KIND; FIGURE, RESERVE above 9; PRICE 0");
        for (int number = 0; number <= 99; number++) {
            bounded(String.valueOf(number), number);
            if (number < 10) {
                bounded("0" + number, number);
            }
        }
        BundlesOfBids x = Sales.told("bid 04 f 01;kind 04 05 09;keep f 09;price 00 99;");
        CHECKS.due("BIDDER 4", x.bid(0, 0), 4);
        CHECKS.due("PRICE 99", x.bid(0, 2), 99);
        CHECKS.due("KIND 5, FIGURE 9", x.kind(4, 0, 0), 59);
        CHECKS.due("RESERVE 9", x.keep(5, 0), 9);
    }

    private static void bounded(String digits, int number) {
        due("bid " + digits + " a 1;", number <= 4 ? 1 : SENSE);
        due("bid 0 a " + digits + ";", number >= 1 ? 1 : SENSE);
        due("off " + digits + ";", number == 0 ? 1 : SENSE);
        due("kind " + digits + " 0 0;", number <= 4 ? 1 : SENSE);
        due("kind 0 " + digits + " 0;", number <= 5 ? 1 : SENSE);
        due("kind 0 0 " + digits + ";", number <= 9 ? 1 : SENSE);
        due("keep a " + digits + ";", number <= 9 ? 1 : SENSE);
        due("price " + digits + " 1;", number == 0 ? 1 : SENSE);
        due("price 0 " + digits + ";", number >= 1 ? 1 : SENSE);
    }

    private static void endOfAStatement() {
        CHECKS.part("Promise 3: each with \";\" behind");
        form("off 0", 5);
        form("off 0,", 5);
        form("off 0:", 5);
        form("off 0;;", 6);
        form("off 0;off 0", 11);
        form("off 0 0;", 5);
        form("bid 0 a 1 1;", 9);
        form("bid 0 a;", 7);
        form("bid 0;", 5);
        form("bid;", 3);
        form("kind 0 1;", 8);
        form("kind 0;", 6);
        form("kind 0 1 2 3;", 10);
        form("keep a;", 6);
        form("keep;", 4);
        form("keep a 1 1;", 8);
        form("price 0;", 7);
        form("price 0 1 1;", 9);
    }

    private static void somethingLacks() {
        CHECKS.part("Promise 3: the end, if something lacks");
        for (String text : RIGHT) {
            due(text, 1);
            int word = text.indexOf(' ');
            for (int length = 0; length < text.length(); length++) {
                // Of a WORD that breaks off there are letters, but it is none: it is at fault where it begins.
                int place = length < word ? 0 : length;
                form(text.substring(0, length), place);
                if (length > 0) {
                    form("off 0;" + text.substring(0, length), 6 + place);
                }
            }
        }
    }

    private static void everyLetterAtEveryPlace() {
        CHECKS.part("Promise 3: every letter at every place");
        for (String text : RIGHT) {
            for (int place = 0; place <= text.length(); place++) {
                for (int c = 0; c <= 255; c++) {
                    String ahead = text.substring(0, place) + (char) c;
                    asTheModel(ahead + text.substring(place));
                    if (place < text.length()) {
                        asTheModel(ahead + text.substring(place + 1));
                    }
                }
            }
        }
    }

    private static void asTheModel(String text) {
        Model model = new Model();
        model.bids(0, 1, 1);
        for (int i = 0; i < text.length(); i++) {
            model.letter(text.charAt(i));
        }
        due(text, model.auction());
    }

    private static void faultOfTheFirstStatement() {
        CHECKS.part("Promise 3: the first letter of the first STATEMENT that is not as it must be");
        due("off 1;off 0;off 0;", SENSE);
        due("off 0;off 1;off 0;", SENSE - 6);
        due("off 0;off 0;off 1;", SENSE - 12);
        due("off 1;keep g 1;", SENSE);
        due("off 0;keep g 1;off 1;", SENSE - 6);
        due(SIXTEEN_LESS_ONE + "off 1;", SENSE - 90);
        due("kind 4 5 9;kind 5 5 9;", SENSE - 11);
        due("kind 4 5 9;kind 4 6 9;", SENSE - 11);
        due("kind 4 5 9;kind 4 5 10;", SENSE - 11);
        due("keep f 9;keep f 10;", SENSE - 9);
        due("bid 4 f 99;bid 5 f 99;", SENSE - 11);
        due("bid 4 f 99;bid 4 f 0;", SENSE - 11);
        due("price 0 99;price 0 0;", SENSE - 11);
    }

    private static void behindAllAheadOfIt() {
        CHECKS.part("Promise 3: behind all ahead of it in the text");
        due("bid 0 a 1;off 1;", 2);
        due("off 1;bid 0 a 1;", SENSE);
        due("bid 0 a 1;price 1 5;bid 0 a 1;price 2 5;off 2;", 5);
        due("bid 0 a 1;price 2 5;", SENSE - 10);
        for (int came = 0; came <= 10; came++) {
            BundlesOfBids x = new BundlesOfBids();
            for (int b = 0; b < came; b++) {
                x.bids(0, 1, 1);
            }
            String text = "bid 0 a 1;bid 1 b 2;bid 2 c 3;bid 3 d 4;bid 4 e 5;bid 0 f 6;bid 1 ab 7;bid 2 cd 8;off 0;";
            int room = 10 - came;
            int places = room < 6 ? 10 * room : room == 6 ? 60 : 71;
            int want = room >= 8 ? 9 : SENSE - places;
            CHECKS.due("8 BIDS more behind " + came, Sales.hear(x, text), want);
            CHECKS.due("then count(0)", x.count(0), room >= 8 ? came + 8 : came);
        }
    }

    private static void formBeforeSense() {
        CHECKS.part("Promise 3: kind 1, else kind 2");
        form("off 1;x", 6);
        form("off 1;off", 9);
        form("bid 9 zz 0;keep z 99;;", 21);
        form("kind 9 9 99", 11);
        form("bid 0 gg 0", 10);
    }

    private static void withFaultNothingComes() {
        CHECKS.part("Promise 3: with a FAULT nothing comes, and letters are no more");
        String ahead = "bid 4 ab 9;keep f 9;kind 0 5 9;price 0 99;off 0;";
        for (String wrong : new String[] {"off 2;", "off", "bid 0 a 0;", "keep g 0;", "kind 0 6 0;", "price 2 1;", "x"}) {
            BundlesOfBids x = new BundlesOfBids();
            x.bids(0, 1, 1);
            CHECKS.holds("'" + ahead + wrong + "' is at fault", Sales.hear(x, ahead + wrong) <= FORM - 48);
            CHECKS.due("count(0)", x.count(0), 1);
            CHECKS.due("count(1)", x.count(1), 1);
            CHECKS.due("count(2)", x.count(2), 0);
            CHECKS.due("count(4)", x.count(4), 1);
            CHECKS.due("count(6)", x.count(6), 0);
            CHECKS.due("kind(0,0,0)", x.kind(0, 0, 0), 0);
            CHECKS.due("the text without what is wrong", Sales.hear(x, ahead), 5);
            CHECKS.due("count(0)", x.count(0), 2);
            CHECKS.due("count(1)", x.count(1), 2);
            CHECKS.due("count(2)", x.count(2), 9);
            CHECKS.due("bid(0,2)", x.bid(0, 2), 99);
            CHECKS.due("kind(0,0,0)", x.kind(0, 0, 0), 59);
            for (int what = 11; what <= 16; what++) {
                CHECKS.due("count(" + what + ")", x.count(what), 0);
            }
        }
    }

    private static void offAndToldAgain() {
        CHECKS.part("Promise 3: it is off, or, told again, ON");
        BundlesOfBids x = new BundlesOfBids();
        x.bids(0, 1, 1);
        for (int times = 1; times <= 6; times++) {
            CHECKS.due("off 0;", Sales.hear(x, "off 0;"), 1);
            CHECKS.due("count(1)", x.count(1), times % 2 == 0 ? 1 : 0);
        }
        CHECKS.due("three times in one text", Sales.hear(x, "off 0;off 0;off 0;"), 3);
        CHECKS.due("count(1)", x.count(1), 0);
        CHECKS.due("turns(0)", x.turns(0), 1);
        CHECKS.due("off 0;", Sales.hear(x, "off 0;"), 1);
        CHECKS.due("count(1)", x.count(1), 0);
    }
}
