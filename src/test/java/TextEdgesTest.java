/** Promises 24 to 27 at their edges: the pad, its fault, its orders. */
public final class TextEdgesTest extends Edges {
    private static final String DIGITS = "0123456789";
    private static final String KINDS = "rpgcbsoh";

    public static void main(String[] args) throws Exception {
        Sentences.run(TextEdgesTest.class);
    }

    private static SaltPrices withPad(String text) {
        SaltPrices x = new SaltPrices();
        put(x, text);
        return x;
    }

    /** So many characters "a". */
    private static SaltPrices withLength(int length) {
        SaltPrices x = new SaltPrices();
        for (int i = 0; i < length; i++) {
            x.put('a');
        }
        return x;
    }

    // ---- promise 24

    /** "BAD_VALUE if there is no character" */
    private static void promise24NoCharacter() {
        SaltPrices x = withPad("ab");
        due("put(0)", x.put(0), BAD_VALUE);
        due("count(16)", x.count(16), 2);
    }

    /** "BAD_VALUE if a code is not 33 to 126": every code by itself. */
    private static void promise24EveryCodeAlone() {
        for (int code = 1; code < 256; code++) {
            SaltPrices x = new SaltPrices();
            boolean good = code >= 33 && code <= 126;
            due("put(" + code + ")", x.put(code), good ? 1 : BAD_VALUE);
            due("sign(0) behind put(" + code + ")", x.sign(0), good ? code : NO_SUCH);
        }
    }

    /** A wrong code anywhere among 8 characters is one: just below 33, just above 126, the greatest. */
    private static void promise24WrongCodeAtEachPlace() {
        long good = Check.packed("abcdefgh");
        for (int place = 0; place < 8; place++) {
            for (long code : new long[] {1, 32, 127, 128, 255}) {
                SaltPrices x = new SaltPrices();
                long characters = good & ~(255L << (8 * place)) | code << (8 * place);
                due("code " + code + " at " + place, x.put(characters), BAD_VALUE);
                due("count(16)", x.count(16), 0);
            }
        }
    }

    /** Codes of 33 and 126 may be anywhere among 8 characters. */
    private static void promise24LeastAndGreatestCode() {
        SaltPrices x = new SaltPrices();
        due("put(!~!~!~!~)", x.put(Check.packed("!~!~!~!~")), 8);
        due("put(~!~!~!~!)", x.put(Check.packed("~!~!~!~!")), 16);
        dueText("the pad", Check.padOf(x), "!~!~!~!~~!~!~!~!");
    }

    /** "1 to 8 characters": "its lowest 8 bits are the last character, the next 8 bits the one before, and so on". */
    private static void promise24OneToEightCharacters() {
        String text = "abcdefgh";
        for (int length = 1; length <= 8; length++) {
            SaltPrices x = new SaltPrices();
            due("put of " + length, x.put(Check.packed(text.substring(0, length))), length);
            dueText("the pad", Check.padOf(x), text.substring(0, length));
        }
    }

    /** "everything above them has to be 0, too": each single bit above 8 bits that are 0. */
    private static void promise24BitAboveNoughts() {
        for (int characters = 0; characters <= 6; characters++) {
            long below = Check.packed("abcdef".substring(0, characters));
            for (int bit = 8 * characters + 8; bit < 64; bit++) {
                SaltPrices x = new SaltPrices();
                due("bit " + bit + " above " + characters, x.put(below | 1L << bit), BAD_VALUE);
                due("count(16)", x.count(16), 0);
            }
        }
    }

    /** Good characters above 8 bits that are 0 are refused like any bit. */
    private static void promise24CharactersAboveNoughts() {
        SaltPrices x = new SaltPrices();
        due("put('a', 0, 'b')", x.put(0x610062L), BAD_VALUE);
        due("put('a', 0)", x.put(0x6100L), BAD_VALUE);
        due("put('a', 0 seven times)", x.put(0x6100000000000000L), BAD_VALUE);
        due("put('a', 0, six more)", x.put(0x6100626364656667L), BAD_VALUE);
        due("count(16)", x.count(16), 0);
    }

    /** Numbers below 0 have a code above 127 as their first of 8. */
    private static void promise24NumbersBelowNought() {
        SaltPrices x = new SaltPrices();
        for (long characters : new long[] {-1, Long.MIN_VALUE, Long.MIN_VALUE | 'a', Check.packed("abcdefgh") | 1L << 63}) {
            due("put(" + characters + ")", x.put(characters), BAD_VALUE);
        }
        due("put(Long.MAX_VALUE)", x.put(Long.MAX_VALUE), BAD_VALUE);
        due("count(16)", x.count(16), 0);
    }

    /** "TOO_MANY if the pad would be longer than 80": 80 are not longer, by 1 to 8 characters. */
    private static void promise24EightyCharacters() {
        String text = "bcdefghi";
        for (int length = 1; length <= 8; length++) {
            long characters = Check.packed(text.substring(0, length));
            SaltPrices x = withLength(81 - length);
            due("81 by " + length, x.put(characters), TOO_MANY);
            due("count(16)", x.count(16), 81 - length);
            due("sign(" + (81 - length) + ")", x.sign(81 - length), NO_SUCH);
            x = withLength(80 - length);
            due("80 by " + length, x.put(characters), 80);
            due("sign(80 - length)", x.sign(80 - length), 'b');
            due("sign(79)", x.sign(79), text.charAt(length - 1));
            due("and one more", x.put('a'), TOO_MANY);
        }
    }

    /** BAD_VALUE is told ahead of TOO_MANY. */
    private static void promise24OrderOfErrors() {
        SaltPrices x = withLength(80);
        due("put(0)", x.put(0), BAD_VALUE);
        due("put(32)", x.put(32), BAD_VALUE);
        due("put('a', 127)", x.put('a' << 8 | 127), BAD_VALUE);
        due("put('a', 0, 'b')", x.put(0x610062L), BAD_VALUE);
        due("put('a')", x.put('a'), TOO_MANY);
    }

    /** It is not a change. */
    private static void promise24IsNotAChange() {
        due("count(17)", withPad("abc").count(17), 0);
    }

    // ---- promise 25

    /** "Empties the pad, and returns the length that it had": 0 of an empty one. */
    private static void promise25EmptyPad() {
        SaltPrices x = new SaltPrices();
        due("wipe()", x.wipe(), 0);
        due("wipe() again", x.wipe(), 0);
    }

    /** 80 of a full one; then there is place for 80 again. */
    private static void promise25FullPad() {
        SaltPrices x = withLength(80);
        due("wipe()", x.wipe(), 80);
        due("count(16)", x.count(16), 0);
        due("sign(0)", x.sign(0), NO_SUCH);
        for (int i = 1; i <= 10; i++) {
            due("put", x.put(Check.packed("abcdefgh")), 8 * i);
        }
    }

    /** It is not a change, and undo does not bring the text back. */
    private static void promise25IsNotAChange() {
        SaltPrices x = withPad("abc");
        x.price(0, 5);
        x.wipe();
        due("count(17)", x.count(17), 1);
        due("undo()", x.undo(), 0);
        due("count(16)", x.count(16), 0);
    }

    // ---- promise 26

    private static void dueFault(String text, int want) {
        due("fault() of \"" + text + "\"", withPad(text).fault(), want);
    }

    /** "the length of the text" where it ends too early, "(also if it is empty)". */
    private static void promise26EmptyText() {
        dueFault("", 0);
        SaltPrices x = withPad("p0=1");
        x.wipe();
        due("fault() of a wiped pad", x.fault(), 0);
    }

    /**
     * "The fault is the index of the first character that cannot stand at its place": behind each beginning of a text,
     * every character there is. Behind a digit of the last number the text may end, behind all others it ends too early.
     */
    private static void promise26EveryCharacterAtEachPlace() {
        dueNext("", KINDS, "");
        for (String kind : new String[] {"p", "c", "b", "s", "o", "h", "r", "r0", "r9"}) {
            dueNext(kind, DIGITS, "");
        }
        for (String digit : new String[] {"0", "5", "9"}) {
            dueNext("p" + digit, "=", "");
            dueNext("r1" + digit, "*", "");
            dueNext("c" + digit, "*", "");
            dueNext("b" + digit, "*", "");
            dueNext("s" + digit, "*", "");
            dueNext("o" + digit, ":", "");
            dueNext("h" + digit, ":", "");
        }
        dueNext("g", DIGITS, "");
        dueNext("g0", ":", "");
        dueNext("g1", DIGITS + ":", "");
        dueNext("g10", DIGITS + ":", "");
        dueNext("g999", DIGITS + ":", "");
        dueNext("g1000", ":", "");
        dueNext("g9999", ":", "");
        for (String start : new String[] {"r01*", "p2=", "g3:", "g45:", "c6*", "b7*", "s8*", "o9:", "h0:"}) {
            dueNumber(start);
        }
        dueNext("p0=1;", KINDS, "");
        dueNext("h0:0;", KINDS, "");
        dueNumber("p0=1;r01*");
    }

    /** "a number 0 to 9999, without leading zeros" */
    private static void dueNumber(String start) {
        dueNext(start, "", DIGITS);
        dueNext(start + "0", ";", "");
        dueNext(start + "1", ";", DIGITS);
        dueNext(start + "90", ";", DIGITS);
        dueNext(start + "100", ";", DIGITS);
        dueNext(start + "999", ";", DIGITS);
        dueNext(start + "1000", ";", "");
        dueNext(start + "9999", ";", "");
    }

    private static void dueNext(String start, String goOn, String mayEnd) {
        for (char next = 33; next <= 126; next++) {
            int want = mayEnd.indexOf(next) >= 0 ? NONE : start.length() + (goOn.indexOf(next) >= 0 ? 1 : 0);
            dueFault(start + next, want);
        }
    }

    /** "if there is none and the text ends too early, it is the length of the text", at each place of each order. */
    private static void promise26EndsTooEarly() {
        for (String order : new String[] {"r01*", "p0=", "g0:", "g9999:", "c0*", "b0*", "s0*", "o0:", "h0:"}) {
            for (int length = 1; length <= order.length(); length++) {
                dueFault(order.substring(0, length), length);
                dueFault("p0=1;" + order.substring(0, length), 5 + length);
            }
            dueFault(order + "0", NONE);
            dueFault(order + "0;", order.length() + 2);
        }
    }

    /** "also of a digit by which a number would be above 9999": the fifth one, whatever comes behind it. */
    private static void promise26Above9999() {
        dueFault("p0=9999", NONE);
        dueFault("p0=10000", 7);
        dueFault("p0=99999", 7);
        dueFault("g9999:9999", NONE);
        dueFault("g10000:1", 5);
        dueFault("c0*99999;p0=1", 7);
        dueFault("r01*123456789", 8);
    }

    /** "without leading zeros": 0 by itself is a number, 00 and 01 are none. */
    private static void promise26LeadingZeros() {
        dueFault("p0=0", NONE);
        dueFault("p0=00", 4);
        dueFault("p0=01", 4);
        dueFault("g0:0", NONE);
        dueFault("g00:0", 2);
        dueFault("g01:0", 2);
        dueFault("r00*00", 5);
        dueFault("c0*0;c0*01", 9);
    }

    /** A digit is 0 to 9, also where there is no such town, road or cart. */
    private static void promise26DigitsOfNoTown() {
        dueFault("p8=1", NONE);
        dueFault("p9=1", NONE);
        dueFault("r89*1", NONE);
        dueFault("r00*1", NONE);
        dueFault("c9*1", NONE);
        dueFault("b9*1;s9*1;o9:9999;h9:9999;g9999:9999", NONE);
    }

    /** The first fault of several is told, in the first order or the last one. */
    private static void promise26TheFirstOfSeveral() {
        dueFault("xx", 0);
        dueFault("p0=1;x;x", 5);
        dueFault("p0:1;p1:1", 2);
        dueFault("p0=1;p1=1;p2=1x;x", 14);
    }

    /** ";" stands between two orders alone. */
    private static void promise26BetweenOrders() {
        dueFault(";", 0);
        dueFault(";p0=1", 0);
        dueFault("p0=1;;p0=1", 5);
        dueFault("p0=1;", 5);
        dueFault("p0=1p0=1", 4);
        dueFault("p0;=1", 2);
    }

    /** A full pad: without a fault, with one at its last place, too early. */
    private static void promise26FullPad() {
        StringBuilder text = new StringBuilder();
        for (int i = 0; i < 15; i++) {
            text.append("p0=1;");
        }
        dueFault(text + "p0=10", NONE);
        dueFault(text + "p0=1", NONE);
        dueFault(text + "p0=1;", 80);
        dueFault(text + "p0=1x", 79);
        dueFault(text + "r01*0", NONE);
        dueFault(text + "g123:", 80);
        dueFault(text + "p0=01", 79);
    }

    /** It is no change, and the pad stays. */
    private static void promise26IsNotAChange() {
        SaltPrices x = withPad("p0=5");
        due("fault()", x.fault(), NONE);
        due("fault() again", x.fault(), NONE);
        due("count(16)", x.count(16), 4);
        due("count(17)", x.count(17), 0);
        due("ofTown(0, 0)", x.ofTown(0, 0), 100);
    }

    /** A list of prices is no text of orders. */
    private static void promise26OfAList() {
        SaltPrices x = new SaltPrices();
        x.write();
        due("fault()", x.fault(), 0);
    }

    // ---- promise 27

    private static void dueCarriedOut(SaltPrices x, String text, int want) {
        put(x, text);
        due("carryOut() of \"" + text + "\"", x.carryOut(), want);
        due("count(16) behind \"" + text + "\"", x.count(16), 0);
    }

    /** "BAD_TEXT if the pad has a fault (then it stays)": also if it is empty. */
    private static void promise27EmptyPad() {
        SaltPrices x = new SaltPrices();
        due("carryOut()", x.carryOut(), BAD_TEXT);
        due("count(17)", x.count(17), 0);
    }

    /** A fault behind good orders: none of them is carried out, nothing is recorded, the pad stays. */
    private static void promise27FaultAtTheEnd() {
        SaltPrices x = withPad("p0=5;c0*100;p0=6x");
        due("carryOut()", x.carryOut(), BAD_TEXT);
        dueText("the pad", Check.padOf(x), "p0=5;c0*100;p0=6x");
        due("ofTown(0, 0)", x.ofTown(0, 0), 100);
        due("count(1)", x.count(1), 0);
        due("count(17)", x.count(17), 0);
        x = withPad("p0=5;");
        due("carryOut() of a text that ends too early", x.carryOut(), BAD_TEXT);
        due("count(16)", x.count(16), 5);
        due("ofTown(0, 0)", x.ofTown(0, 0), 100);
    }

    /** "up to the first one that returns an error": the ones ahead of it are done, those behind it are not. */
    private static void promise27UpToTheFirstError() {
        SaltPrices x = new SaltPrices();
        dueCarriedOut(x, "p0=5;p1=6;p8=7;p2=8", 2);
        due("ofTown(0, 0)", x.ofTown(0, 0), 5);
        due("ofTown(1, 0)", x.ofTown(1, 0), 6);
        due("ofTown(2, 0)", x.ofTown(2, 0), 100);
        due("count(17)", x.count(17), 1);
    }

    /** The last order of all may be the one that returns an error. */
    private static void promise27ErrorOfTheLast() {
        SaltPrices x = new SaltPrices();
        dueCarriedOut(x, "p0=5;p1=6;p2=0", 2);
        due("ofTown(1, 0)", x.ofTown(1, 0), 6);
        due("ofTown(2, 0)", x.ofTown(2, 0), 100);
    }

    /** "also if none is carried out" it is a change, and the pad is emptied. */
    private static void promise27NoneCarriedOut() {
        SaltPrices x = new SaltPrices();
        dueCarriedOut(x, "p0=0;p1=5", 0);
        due("count(17)", x.count(17), 1);
        due("ofTown(1, 0)", x.ofTown(1, 0), 100);
        due("undo()", x.undo(), 0);
        due("ofTown(0, 0)", x.ofTown(0, 0), 100);
    }

    /** "This is a change (one, with all of them)": one undo undoes all orders, and the ring drops one state alone. */
    private static void promise27OneChange() {
        SaltPrices x = new SaltPrices();
        for (int price = 1; price <= 6; price++) {
            x.price(7, price);
        }
        dueCarriedOut(x, "p0=5;p1=6;p2=7;r01*3;c0*100;b0*1", 6);
        due("count(17)", x.count(17), 6);
        due("undo()", x.undo(), 5);
        due("ofTown(0, 0)", x.ofTown(0, 0), 100);
        due("ofTown(2, 0)", x.ofTown(2, 0), 100);
        due("count(0)", x.count(0), 0);
        due("count(1)", x.count(1), 0);
        due("ofTown(7, 0)", x.ofTown(7, 0), 6);
        due("undo()", x.undo(), 4);
        due("ofTown(7, 0)", x.ofTown(7, 0), 5);
    }

    /** Undo does not bring back the text that was carried out. */
    private static void promise27PadIsNotUndone() {
        SaltPrices x = new SaltPrices();
        dueCarriedOut(x, "p0=5", 1);
        x.undo();
        due("count(16)", x.count(16), 0);
    }

    /** Each kind of order returns the errors of its call: no such town, road or cart. */
    private static void promise27NoSuch() {
        for (String order : new String[] {"r08*1", "r80*1", "r99*1", "p8=1", "p9=1", "g1:1", "g14:0", "g9999:0", "c8*1",
            "c9*1", "b1*1", "b9*1", "s1*1", "s9*1", "o1:0", "o9:0", "o0:1", "o0:9999", "h1:0", "h9:0", "h0:1", "h0:9999"}) {
            SaltPrices x = withRoads(1);
            x.cart(0, 100);
            dueCarriedOut(x, order + ";p7=5", 0);
            due("ofTown(7, 0)", x.ofTown(7, 0), 100);
        }
    }

    /** Values out of range, just above or 0 or 9999. */
    private static void promise27BadValue() {
        for (String order : new String[] {"r00*1", "r77*0", "r01*201", "r01*9999", "p0=0", "p0=1000", "p7=9999", "g0:41",
            "g0:9999", "b0*0", "b0*100", "b0*9999", "s0*0", "s0*100", "s0*9999"}) {
            SaltPrices x = withRoads(1);
            x.price(0, 1);
            x.cart(0, 99999);
            x.buy(0, 50);
            dueCarriedOut(x, order + ";p7=5", 0);
            due("ofTown(7, 0)", x.ofTown(7, 0), 100);
        }
    }

    /** Values at the ends of their ranges; "c" takes all numbers, as 9999 coins are not too many. */
    private static void promise27ValuesAtTheEnds() {
        SaltPrices x = new SaltPrices();
        dueCarriedOut(x, "r07*0;r70*200;p0=1;p7=999;c0*0;c7*9999;g0:12;g0:0;g1:12", 9);
        due("ofRoad(0, 2)", x.ofRoad(0, 2), 0);
        due("ofRoad(1, 2)", x.ofRoad(1, 2), 200);
        due("ofTown(0, 0)", x.ofTown(0, 0), 1);
        due("ofTown(7, 0)", x.ofTown(7, 0), 999);
        due("ofCart(0, 1)", x.ofCart(0, 1), 0);
        due("ofCart(1, 1)", x.ofCart(1, 1), 9999);
        due("ofRoad(1, 3)", x.ofRoad(1, 3), 12);
        dueCarriedOut(x, "c0*9999;b2*99;s2*99;b2*1;s2*1", 5);
        due("ofCart(2, 1)", x.ofCart(2, 1), 9999);
        due("ofCart(2, 3)", x.ofCart(2, 3), 100);
    }

    /** TOO_MANY ends it, too: of the 15th road, of the 7th cart, of the 100th sack, of too many coins. */
    private static void promise27TooMany() {
        SaltPrices x = new SaltPrices();
        for (int road = 0; road < 13; road++) {
            x.road(0, 1, 0);
        }
        dueCarriedOut(x, "r01*1;r01*2;p0=5", 1);
        due("count(0)", x.count(0), 14);
        dueCarriedOut(x, "c0*1;c0*1;c0*1;c0*1;c0*1;c0*1;c0*1;p0=5", 6);
        due("count(1)", x.count(1), 6);
        x = new SaltPrices();
        dueCarriedOut(x, "p0=1;c0*100;b0*99;b0*1;p0=5", 3);
        due("ofCart(0, 2)", x.ofCart(0, 2), 99);
        x.cart(0, 99999);
        x.buy(1, 1);
        dueCarriedOut(x, "p0=2;s1*1;p0=5", 1);
        due("ofTown(0, 0)", x.ofTown(0, 0), 2);
    }

    /** NOT_POSSIBLE ends it, too: guards, coins, sacks, a road elsewhere, a toll. */
    private static void promise27NotPossible() {
        for (String order : new String[] {"g0:13", "b0*4", "s0*6", "o0:1", "h0:1", "o0:0"}) {
            SaltPrices x = new SaltPrices();
            x.road(0, 1, 200);
            x.road(1, 2, 0);
            x.cart(0, 899);
            x.buy(0, 5);
            dueCarriedOut(x, order + ";p7=5", 0);
            due("ofTown(7, 0)", x.ofTown(7, 0), 100);
            due("ofCart(0, 0)", x.ofCart(0, 0), 0);
        }
    }

    /** "o": openly, "h": hidden; what an order does is there for the next one. */
    private static void promise27EachSeesTheOneAhead() {
        SaltPrices x = new SaltPrices();
        dueCarriedOut(x, "r01*3;r12*0;g1:9;p0=10;c0*100;b0*4;o0:0;p1=50;s0*1;h0:1", 10);
        int[] dues = {2, 100 - 40 - 12 + 50 - 60, 0, 40, 50, 12, 60, 3};
        for (int what = 0; what < dues.length; what++) {
            due("ofCart(0, " + what + ")", x.ofCart(0, what), dues[what]);
        }
        due("count(11)", x.count(11), 149);
        due("ofRoad(0, 7)", x.ofRoad(0, 7), 1);
        due("ofRoad(1, 8)", x.ofRoad(1, 8), 1);
    }

    /** The most orders that a pad holds: 16 of 4 characters. */
    private static void promise27SixteenOrders() {
        SaltPrices x = new SaltPrices();
        StringBuilder text = new StringBuilder("p0=2");
        for (int i = 1; i < 16; i++) {
            text.append(i < 15 ? ";p0=3" : ";p7=9");
        }
        dueCarriedOut(x, text.toString(), 16);
        due("ofTown(0, 0)", x.ofTown(0, 0), 3);
        due("ofTown(7, 0)", x.ofTown(7, 0), 9);
        dueCarriedOut(x, text + "8", 16);
        due("ofTown(7, 0) by 80 characters", x.ofTown(7, 0), 98);
    }
}
