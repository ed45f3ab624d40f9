/** At least one test for each promise of the document: ordinary inputs, the edges that it names, wrong inputs. */
public final class PromisesTest {
    private static final int NO_SUCH = -1, BAD_VALUE = -2, BAD_TEXT = -3, TOO_MANY = -4, NOT_POSSIBLE = -5, NONE = -6;
    private static final int MIN = Integer.MIN_VALUE, MAX = Integer.MAX_VALUE;
    private static final Check check = new Check();

    public static void main(String[] args) {
        newObject();
        set();
        road();
        price();
        guard();
        toll();
        makeHonest();
        makeHonestInChains();
        cart();
        buy();
        sell();
        goOpenly();
        goHidden();
        goWrong();
        write();
        ofTown();
        ofRoad();
        ofCart();
        worth();
        sign();
        count();
        step();
        fewestGuards();
        mostPrice();
        ifHonest();
        wouldHave();
        put();
        wipe();
        fault();
        carryOut();
        undo();
        save();
        restore();
        check.end();
    }

    private static void due(String call, long got, long want) {
        check.due(call, got, want);
    }

    /** Three towns in a row: 0 -(toll 20)- 1 -(toll 5)- 2, with prices 100, 150, 160. */
    private static SaltPrices row() {
        SaltPrices x = new SaltPrices();
        x.road(0, 1, 20);
        x.road(1, 2, 5);
        x.price(1, 150);
        x.price(2, 160);
        return x;
    }

    /** A new object with so many changes that change nothing, to fill the history. */
    private static void change(SaltPrices x, int times) {
        for (int i = 0; i < times; i++) {
            x.set(0, x.count(12));
        }
    }

    private static void newObject() {
        check.begin("promise 1");
        SaltPrices x = new SaltPrices();
        for (int town = 0; town < 8; town++) {
            due("price " + town, x.ofTown(town, 0), 100);
            due("roads " + town, x.ofTown(town, 1), 0);
            due("carts " + town, x.ofTown(town, 2), 0);
            due("hiding " + town, x.ofTown(town, 3), 0);
        }
        long[] counts = {0, 0, 0, 0, 0, 0, 0, 1, 0, 0, 0, 1, 20, 10, 3, 12, 0, 0};
        for (int what = 0; what < counts.length; what++) {
            due("count(" + what + ")", x.count(what), counts[what]);
        }
        SaltPrices other = new SaltPrices();
        x.price(0, 5);
        due("another object's price", other.ofTown(0, 0), 100);
    }

    private static void set() {
        check.begin("promise 2");
        SaltPrices x = new SaltPrices();
        int[] least = {0, 1, 1, 0};
        int[] most = {500, 30, 4, 40};
        int[] first = {20, 10, 3, 12};
        for (int setting = 0; setting < 4; setting++) {
            due("below " + setting, x.set(setting, least[setting] - 1), BAD_VALUE);
            due("above " + setting, x.set(setting, most[setting] + 1), BAD_VALUE);
            due("still " + setting, x.count(12 + setting), first[setting]);
            due("least " + setting, x.set(setting, least[setting]), first[setting]);
            due("most " + setting, x.set(setting, most[setting]), least[setting]);
            due("told " + setting, x.count(12 + setting), most[setting]);
        }
        due("set(4, 1)", x.set(4, 1), BAD_VALUE);
        due("set(-1, 1)", x.set(-1, 1), BAD_VALUE);
        due("set(MIN, 1)", x.set(MIN, 1), BAD_VALUE);
        due("set(MAX, MAX)", x.set(MAX, MAX), BAD_VALUE);
        x.road(0, 1, 0);
        x.road(0, 1, 0);
        x.guard(0, 7);
        x.guard(1, 3);
        due("POOL below the guards", x.set(SaltPrices.POOL, 9), NOT_POSSIBLE);
        due("POOL out of range", x.set(SaltPrices.POOL, -1), BAD_VALUE);
        due("POOL as it was", x.count(15), 40);
        due("POOL as many as the guards", x.set(SaltPrices.POOL, 10), 40);
        due("another setting below the guards", x.set(SaltPrices.EYE, 1), 30);
    }

    private static void road() {
        check.begin("promise 3");
        SaltPrices x = new SaltPrices();
        due("road(-1, 0, 0)", x.road(-1, 0, 0), NO_SUCH);
        due("road(0, -1, 0)", x.road(0, -1, 0), NO_SUCH);
        due("road(8, 0, 0)", x.road(8, 0, 0), NO_SUCH);
        due("road(0, 8, 0)", x.road(0, 8, 0), NO_SUCH);
        due("road(8, 8, 0): no town ahead of the same", x.road(8, 8, 0), NO_SUCH);
        due("road(8, 0, 201): no town ahead of the toll", x.road(8, 0, 201), NO_SUCH);
        due("road(3, 3, 0)", x.road(3, 3, 0), BAD_VALUE);
        due("road(3, 4, -1)", x.road(3, 4, -1), BAD_VALUE);
        due("road(3, 4, 201)", x.road(3, 4, 201), BAD_VALUE);
        due("road(MIN, MAX, 0)", x.road(MIN, MAX, 0), NO_SUCH);
        due("no road", x.count(0), 0);
        for (int i = 0; i < 14; i++) {
            due("road " + i, x.road(7, i % 7, i == 13 ? 200 : i), i);
        }
        due("road 14", x.road(0, 1, 0), TOO_MANY);
        due("no such town ahead of too many", x.road(0, 8, 0), NO_SUCH);
        due("bad value ahead of too many", x.road(1, 1, 0), BAD_VALUE);
        due("14 roads", x.count(0), 14);
        due("the first town", x.ofRoad(13, 0), 7);
        due("the other one", x.ofRoad(13, 1), 6);
        due("the toll", x.ofRoad(13, 2), 200);
        due("the guards", x.ofRoad(13, 3), 0);
        due("the trips openly", x.ofRoad(13, 7), 0);
        due("the trips hidden", x.ofRoad(13, 8), 0);
    }

    private static void price() {
        check.begin("promise 4");
        SaltPrices x = new SaltPrices();
        due("price(7, 999)", x.price(7, 999), 100);
        due("price(7, 1)", x.price(7, 1), 999);
        due("price(7, 0)", x.price(7, 0), BAD_VALUE);
        due("price(7, 1000)", x.price(7, 1000), BAD_VALUE);
        due("price(7, MIN)", x.price(7, MIN), BAD_VALUE);
        due("price(8, 1000)", x.price(8, 1000), NO_SUCH);
        due("price(-1, 5)", x.price(-1, 5), NO_SUCH);
        due("ofTown(7, 0)", x.ofTown(7, 0), 1);
        due("ofTown(6, 0)", x.ofTown(6, 0), 100);
    }

    private static void guard() {
        check.begin("promise 5");
        SaltPrices x = new SaltPrices();
        due("guard(0, 1) without roads", x.guard(0, 1), NO_SUCH);
        x.road(0, 1, 0);
        x.road(1, 2, 0);
        due("guard(2, 1)", x.guard(2, 1), NO_SUCH);
        due("guard(-1, 41)", x.guard(-1, 41), NO_SUCH);
        due("guard(0, -1)", x.guard(0, -1), BAD_VALUE);
        due("guard(0, 41)", x.guard(0, 41), BAD_VALUE);
        due("guard(0, MAX)", x.guard(0, MAX), BAD_VALUE);
        due("guard(0, 13)", x.guard(0, 13), NOT_POSSIBLE);
        due("guard(0, 12)", x.guard(0, 12), 0);
        due("guard(1, 1)", x.guard(1, 1), NOT_POSSIBLE);
        due("guard(0, 12) again", x.guard(0, 12), 12);
        due("guard(0, 5)", x.guard(0, 5), 12);
        due("guard(1, 8)", x.guard(1, 8), NOT_POSSIBLE);
        due("guard(1, 7)", x.guard(1, 7), 0);
        due("count(2)", x.count(2), 12);
        x.set(SaltPrices.POOL, 40);
        x.guard(1, 0);
        due("guard(0, 40)", x.guard(0, 40), 5);
        due("guard(0, 0)", x.guard(0, 0), 40);
    }

    private static void toll() {
        check.begin("promise 6");
        SaltPrices x = new SaltPrices();
        due("toll(0, 5) without roads", x.toll(0, 5), NO_SUCH);
        x.road(0, 1, 7);
        due("toll(0, 200)", x.toll(0, 200), 7);
        due("toll(0, 0)", x.toll(0, 0), 200);
        due("toll(0, 201)", x.toll(0, 201), BAD_VALUE);
        due("toll(0, -1)", x.toll(0, -1), BAD_VALUE);
        due("toll(1, 201)", x.toll(1, 201), NO_SUCH);
        due("toll(-1, 5)", x.toll(-1, 5), NO_SUCH);
        due("ofRoad(0, 2)", x.ofRoad(0, 2), 0);
    }

    private static void makeHonest() {
        check.begin("promise 7");
        SaltPrices x = row();
        x.guard(0, 4);
        due("makeHonest()", x.makeHonest(), 2);
        due("town 0", x.ofTown(0, 0), 100);
        due("town 1 is bounded by the toll", x.ofTown(1, 0), 120);
        due("town 2 without guards", x.ofTown(2, 0), 120);
        due("honest then", x.count(7), 1);
        due("nothing more", x.makeHonest(), 0);
        due("it is a change all the same", x.count(17), 6);
        x = new SaltPrices();
        x.road(0, 1, 200);
        x.price(1, 999);
        x.guard(0, 1);
        due("hidden by one guard", x.makeHonest(), 1);
        due("(100 * 100 + 10 * 20) / 90", x.ofTown(1, 0), 113);
        x.price(0, 999);
        due("the other way round", x.makeHonest(), 1);
        due("(100 * 113 + 10 * 20) / 90", x.ofTown(0, 0), 127);
        x.guard(0, 9);
        x.price(1, 999);
        due("the toll at 90 hundredths", x.makeHonest(), 1);
        due("127 + 200", x.ofTown(1, 0), 327);
        x.toll(0, 0);
        due("without a toll", x.makeHonest(), 1);
        due("as in the first town", x.ofTown(1, 0), 127);
    }

    /** The roads come in the order that is worst for going through them once. */
    private static void makeHonestInChains() {
        check.begin("promise 7, chains");
        SaltPrices x = new SaltPrices();
        for (int town = 6; town >= 0; town--) {
            x.road(town, town + 1, 200);
        }
        for (int town = 1; town < 8; town++) {
            x.price(town, 990 + town);
        }
        due("ifHonest()", x.ifHonest(), 7);
        due("makeHonest()", x.makeHonest(), 7);
        for (int town = 0; town < 8; town++) {
            due("town " + town, x.ofTown(town, 0), 100);
        }
        x = new SaltPrices();
        x.set(SaltPrices.POOL, 40);
        for (int town = 0; town < 7; town++) {
            x.road(town, town + 1, 10 + town);
            x.guard(town, 5);
        }
        x.set(SaltPrices.FINE, 500);
        for (int town = 0; town < 7; town++) {
            x.price(town, 999 - town);
        }
        due("the other way", x.makeHonest(), 7);
        int[] prices = {191, 181, 170, 158, 145, 131, 116, 100};
        for (int town = 0; town < 8; town++) {
            due("town " + town, x.ofTown(town, 0), prices[town]);
        }
    }

    private static void cart() {
        check.begin("promise 8");
        SaltPrices x = new SaltPrices();
        due("cart(-1, 0)", x.cart(-1, 0), NO_SUCH);
        due("cart(8, -1)", x.cart(8, -1), NO_SUCH);
        due("cart(0, -1)", x.cart(0, -1), BAD_VALUE);
        due("cart(0, 100000)", x.cart(0, 100000), BAD_VALUE);
        due("cart(0, 99999)", x.cart(0, 99999), 0);
        due("cart(7, 0)", x.cart(7, 0), 1);
        for (int i = 2; i < 6; i++) {
            due("cart " + i, x.cart(i, 10 * i), i);
        }
        due("cart 6", x.cart(0, 0), TOO_MANY);
        due("no town ahead of too many", x.cart(8, 0), NO_SUCH);
        due("bad value ahead of too many", x.cart(0, -1), BAD_VALUE);
        due("carts", x.count(1), 6);
        due("coins that came", x.count(10), 99999 + 20 + 30 + 40 + 50);
        due("its town", x.ofCart(1, 0), 7);
        due("its coins", x.ofCart(5, 1), 50);
        for (int what = 2; what < 8; what++) {
            due("a new cart's " + what, x.ofCart(5, what), 0);
        }
    }

    private static void buy() {
        check.begin("promise 9");
        SaltPrices x = new SaltPrices();
        due("buy(0, 1) without carts", x.buy(0, 1), NO_SUCH);
        x.cart(3, 300);
        x.cart(4, 99999);
        x.price(3, 10);
        due("buy(2, 0)", x.buy(2, 0), NO_SUCH);
        due("buy(-1, 1)", x.buy(-1, 1), NO_SUCH);
        due("buy(0, 0)", x.buy(0, 0), BAD_VALUE);
        due("buy(0, 100)", x.buy(0, 100), BAD_VALUE);
        due("buy(0, MAX)", x.buy(0, MAX), BAD_VALUE);
        due("buy(0, 31)", x.buy(0, 31), NOT_POSSIBLE);
        due("buy(0, 30)", x.buy(0, 30), 0);
        due("its sacks", x.ofCart(0, 2), 30);
        due("coins for them", x.ofCart(0, 3), 300);
        x.price(3, 1);
        due("too few coins ahead of too many", x.buy(0, 99), NOT_POSSIBLE);
        due("buy(1, 99)", x.buy(1, 99), 90099);
        due("buy(1, 1)", x.buy(1, 1), TOO_MANY);
        due("sacks bought", x.count(4), 129);
        due("sacks of all", x.count(3), 129);
    }

    private static void sell() {
        check.begin("promise 10");
        SaltPrices x = new SaltPrices();
        due("sell(0, 1) without carts", x.sell(0, 1), NO_SUCH);
        x.cart(3, 99999);
        x.buy(0, 10);
        due("sell(1, 0)", x.sell(1, 0), NO_SUCH);
        due("sell(-1, 1)", x.sell(-1, 1), NO_SUCH);
        due("sell(0, 0)", x.sell(0, 0), BAD_VALUE);
        due("sell(0, 100)", x.sell(0, 100), BAD_VALUE);
        due("sell(0, 11)", x.sell(0, 11), NOT_POSSIBLE);
        due("sell(0, 10)", x.sell(0, 10), 99999);
        due("coins that it sold for", x.ofCart(0, 4), 1000);
        due("its sacks", x.ofCart(0, 2), 0);
        x.buy(0, 10);
        x.price(3, 101);
        due("sell(0, 10) for 1010", x.sell(0, 10), TOO_MANY);
        due("too few sacks ahead of too many", x.sell(0, 99), NOT_POSSIBLE);
        due("sell(0, 9)", x.sell(0, 9), 99908);
        due("sacks sold", x.count(5), 19);
        due("sacks of all", x.count(3), 1);
    }

    private static void goOpenly() {
        check.begin("promise 11, openly");
        SaltPrices x = row();
        x.cart(0, 540);
        x.buy(0, 5);
        due("too few coins for the toll", x.go(0, 0, 0), NOT_POSSIBLE);
        due("still there", x.ofCart(0, 0), 0);
        x.toll(0, 8);
        due("just enough", x.go(0, 0, 0), 0);
        due("its town", x.ofCart(0, 0), 1);
        due("its coins", x.ofCart(0, 1), 0);
        due("its sacks", x.ofCart(0, 2), 5);
        due("its tolls", x.ofCart(0, 5), 40);
        due("its fines", x.ofCart(0, 6), 0);
        due("nothing is drawn", x.count(11), 1);
        due("openly", x.ofRoad(0, 7), 1);
        due("hidden", x.ofRoad(0, 8), 0);
        x.sell(0, 5);
        due("back without sacks", x.go(0, 0, 0), 0);
        due("nothing is paid", x.ofCart(0, 1), 750);
        due("its town", x.ofCart(0, 0), 0);
        due("openly again", x.ofRoad(0, 7), 2);
    }

    private static void goHidden() {
        check.begin("promise 11, hidden");
        SaltPrices x = row();
        x.cart(0, 1000);
        x.buy(0, 5);
        due("without guards", x.go(0, 0, 1), 0);
        due("a number is drawn", x.count(11), 149);
        due("no toll", x.ofCart(0, 1), 500);
        x.guard(0, 4);
        // 75 * 149 + 74 = 11249; 2812 left over by 100 is 12.
        due("found", x.go(0, 0, 1), 5);
        due("drawn", x.count(11), 11249);
        due("sacks", x.ofCart(0, 2), 0);
        due("fined", x.ofCart(0, 1), 400);
        due("fines", x.ofCart(0, 6), 100);
        due("lost", x.ofCart(0, 7), 5);
        due("all lost", x.count(6), 5);
        due("in the other town", x.ofCart(0, 0), 0);
        due("without sacks", x.go(0, 0, 1), 0);
        due("nothing is drawn", x.count(11), 11249);
        due("hidden trips", x.ofRoad(0, 8), 3);
        due("open trips", x.ofRoad(0, 7), 0);
        due("in the other town", x.ofCart(0, 0), 1);
        drawsAtTheEdge();
        fineOfAllCoins();
    }

    /** The first number that is drawn is 37. */
    private static void drawsAtTheEdge() {
        SaltPrices x = row();
        x.set(SaltPrices.EYE, 1);
        x.set(SaltPrices.POOL, 40);
        x.guard(0, 37);
        x.cart(0, 100);
        x.buy(0, 1);
        due("37 is not less than 37", x.go(0, 0, 1), 0);
        due("its sacks", x.ofCart(0, 2), 1);
        x = row();
        x.set(SaltPrices.EYE, 1);
        x.set(SaltPrices.POOL, 40);
        x.guard(0, 38);
        x.cart(0, 100);
        x.buy(0, 1);
        due("37 is less than 38", x.go(0, 0, 1), 1);
        x = row();
        x.cart(0, 100);
        x.buy(0, 1);
        // 65537 bounds the third number: 75 * 11249 + 74 = 843749 is 12 * 65537 + 57305.
        for (int i = 0; i < 3; i++) {
            x.go(0, 0, 1);
        }
        due("the third x", x.count(11), 57305);
    }

    private static void fineOfAllCoins() {
        SaltPrices x = row();
        x.guard(0, 9);
        x.cart(0, 559);
        x.buy(0, 5);
        x.set(SaltPrices.FINE, 12);
        due("found", x.go(0, 0, 1), 5);
        due("coins, of which 60 are due", x.ofCart(0, 1), 0);
        due("fines", x.ofCart(0, 6), 59);
        due("tolls", x.ofCart(0, 5), 0);
    }

    private static void goWrong() {
        check.begin("promise 11, wrong");
        SaltPrices x = row();
        x.cart(0, 100);
        due("go(1, 0, 0)", x.go(1, 0, 0), NO_SUCH);
        due("go(-1, 0, 0)", x.go(-1, 0, 0), NO_SUCH);
        due("go(0, 2, 2)", x.go(0, 2, 2), NO_SUCH);
        due("go(0, -1, 0)", x.go(0, -1, 0), NO_SUCH);
        due("go(0, 1, 2): bad value ahead of the wrong town", x.go(0, 1, 2), BAD_VALUE);
        due("go(0, 0, -1)", x.go(0, 0, -1), BAD_VALUE);
        due("go(0, 1, 0)", x.go(0, 1, 0), NOT_POSSIBLE);
        due("go(0, 1, 1)", x.go(0, 1, 1), NOT_POSSIBLE);
        due("no trips", x.ofRoad(1, 7) + x.ofRoad(1, 8), 0);
        due("its town", x.ofCart(0, 0), 0);
    }

    private static void write() {
        check.begin("promise 12");
        SaltPrices x = new SaltPrices();
        x.price(0, 1);
        x.price(1, 10);
        x.price(2, 999);
        x.price(3, 90);
        x.price(7, 205);
        Check.putText(x, "what_was_there_before_and_is_longer_than_the_list");
        int changes = x.count(17);
        due("write()", x.write(), "1/10/999/90/100/100/100/205".length());
        due("the text", Check.padOf(x).equals("1/10/999/90/100/100/100/205") ? 1 : 0, 1);
        due("no change", x.count(17), changes);
        due("write() again", x.write(), 27);
    }

    private static void ofTown() {
        check.begin("promise 13");
        SaltPrices x = row();
        x.road(2, 0, 1);
        x.cart(0, 1);
        x.cart(2, 1);
        x.cart(2, 1);
        due("price", x.ofTown(2, 0), 160);
        due("roads 0", x.ofTown(0, 1), 5);
        due("roads 1", x.ofTown(1, 1), 3);
        due("roads 2", x.ofTown(2, 1), 6);
        due("roads 3", x.ofTown(3, 1), 0);
        due("carts 0", x.ofTown(0, 2), 1);
        due("carts 1", x.ofTown(1, 2), 0);
        due("carts 2", x.ofTown(2, 2), 6);
        due("hiding 0", x.ofTown(0, 3), 1);
        due("hiding 2", x.ofTown(2, 3), 0);
        due("ofTown(8, 9)", x.ofTown(8, 9), NO_SUCH);
        due("ofTown(-1, 0)", x.ofTown(-1, 0), NO_SUCH);
        due("ofTown(0, 4)", x.ofTown(0, 4), BAD_VALUE);
        due("ofTown(0, -1)", x.ofTown(0, -1), BAD_VALUE);
        x = new SaltPrices();
        x.road(0, 1, 20);
        x.road(1, 2, 20);
        x.guard(0, 9);
        x.price(2, 200);
        x.set(SaltPrices.LEGS, 1);
        due("hiding with one leg", x.ofTown(0, 3), 0);
        x.set(SaltPrices.LEGS, 2);
        due("hiding with two legs", x.ofTown(0, 3), 1);
    }

    private static void ofRoad() {
        check.begin("promise 14");
        SaltPrices x = row();
        due("ofRoad(2, 9)", x.ofRoad(2, 9), NO_SUCH);
        due("ofRoad(-1, 0)", x.ofRoad(-1, 0), NO_SUCH);
        due("ofRoad(0, 9)", x.ofRoad(0, 9), BAD_VALUE);
        due("ofRoad(0, -1)", x.ofRoad(0, -1), BAD_VALUE);
        x.guard(1, 3);
        due("town", x.ofRoad(1, 0), 1);
        due("other", x.ofRoad(1, 1), 2);
        due("toll", x.ofRoad(1, 2), 5);
        due("guards", x.ofRoad(1, 3), 3);
        due("chance", x.ofRoad(1, 4), 30);
        x.set(SaltPrices.EYE, 30);
        due("chance of 90", x.ofRoad(1, 4), 90);
        x.guard(1, 4);
        due("chance above 90", x.ofRoad(1, 4), 90);
        due("160 is above 150 + 5", x.ofRoad(1, 5), 0);
        due("150 is below 160", x.ofRoad(1, 6), 1);
        x.price(2, 155);
        due("155 is 150 + 5", x.ofRoad(1, 5), 1);
        x.price(2, 100);
        due("from 150 to 100", x.ofRoad(1, 5), 1);
        due("from 100 to 150", x.ofRoad(1, 6), 0);
        x.set(SaltPrices.EYE, 10);
        x.set(SaltPrices.FINE, 20);
        x.guard(0, 4);
        x.toll(0, 200);
        x.price(1, 180);
        due("60 * 180 less 800 is 100 * 100", x.ofRoad(0, 5), 1);
        x.price(1, 181);
        due("60 * 181 less 800 is more", x.ofRoad(0, 5), 0);
        x.cart(1, 0);
        x.go(0, 1, 1);
        x.go(0, 1, 0);
        x.go(0, 1, 1);
        due("openly", x.ofRoad(1, 7), 1);
        due("hidden", x.ofRoad(1, 8), 2);
        due("of another road", x.ofRoad(0, 7) + x.ofRoad(0, 8), 0);
    }

    private static void ofCart() {
        check.begin("promise 15");
        SaltPrices x = row();
        due("ofCart(0, 0) without carts", x.ofCart(0, 0), NO_SUCH);
        x.cart(5, 7);
        x.cart(0, 1000);
        due("ofCart(2, 8)", x.ofCart(2, 8), NO_SUCH);
        due("ofCart(-1, 0)", x.ofCart(-1, 0), NO_SUCH);
        due("ofCart(1, 8)", x.ofCart(1, 8), BAD_VALUE);
        due("ofCart(1, -1)", x.ofCart(1, -1), BAD_VALUE);
        x.guard(1, 9);
        x.buy(1, 6);
        x.go(1, 0, 0);
        x.sell(1, 2);
        x.go(1, 1, 1);
        int[] dues = {2, 500, 0, 600, 300, 120, 80, 4};
        for (int what = 0; what < dues.length; what++) {
            due("ofCart(1, " + what + ")", x.ofCart(1, what), dues[what]);
        }
        int[] untouched = {5, 7, 0, 0, 0, 0, 0, 0};
        for (int what = 0; what < untouched.length; what++) {
            due("ofCart(0, " + what + ")", x.ofCart(0, what), untouched[what]);
        }
        due("the toll of 6 sacks, too", x.count(9), 507);
    }

    private static void worth() {
        check.begin("promise 16");
        SaltPrices x = row();
        due("worth(8, 0, 0)", x.worth(8, 0, 0), NO_SUCH);
        due("worth(-1, 5, 0)", x.worth(-1, 5, 0), NO_SUCH);
        due("worth(0, -1, 0)", x.worth(0, -1, 0), BAD_VALUE);
        due("worth(0, 5, 0)", x.worth(0, 5, 0), BAD_VALUE);
        due("worth(0, 0, -1)", x.worth(0, 0, -1), BAD_VALUE);
        due("worth(0, 0, 2)", x.worth(0, 0, 2), BAD_VALUE);
        x.guard(0, 4);
        x.guard(1, 1);
        due("none left", x.worth(1, 0, 1), 150);
        due("openly 150 - 20", x.worth(0, 1, 1), 13000);
        due("waiting at 160", x.worth(2, 1, 1), 16000);
        due("160 - 5 openly", x.worth(1, 1, 1), 15500);
        due("90 * 160 - 10 * 20 is less", x.worth(1, 1, 0), 15500);
        due("two roads openly", x.worth(0, 2, 1), 1350000);
        x.set(SaltPrices.FINE, 0);
        x.toll(1, 50);
        due("60 * 150 is less than 100 * 100", x.worth(0, 1, 0), 13000);
        x.toll(0, 60);
        due("waiting at 100", x.worth(0, 1, 0), 10000);
        x.price(2, 999);
        due("90 * 999 hidden, not 949 openly", x.worth(1, 1, 0), 94900);
        x.toll(1, 200);
        due("90 * 999 hidden", x.worth(1, 1, 0), 89910);
        due("799 openly", x.worth(1, 1, 1), 79900);
        due("hidden then openly", x.worth(0, 2, 0), 8391000);
        x.set(SaltPrices.FINE, 7);
        due("hidden less the fine", x.worth(1, 1, 0), 89840);
        due("the fine in units of two legs", x.worth(1, 2, 0), 8984000);
        x.toll(0, 200);
        due("hidden, then openly: 100 * 89840 - 200 * 10000", x.worth(0, 2, 0), 6984000);
        x.guard(0, 1);
        due("hidden twice: 90 * 89840 - 10 * 7 * 100", x.worth(0, 2, 0), 8085600 - 7000);
        due("not more than 4 legs by LEGS", x.worth(0, 4, 1), 79900L * 1000000 - 200L * 100000000);
    }

    private static void sign() {
        check.begin("promise 17");
        SaltPrices x = new SaltPrices();
        due("sign(0) of none", x.sign(0), NO_SUCH);
        Check.putText(x, "!~9");
        due("sign(0)", x.sign(0), 33);
        due("sign(1)", x.sign(1), 126);
        due("sign(2)", x.sign(2), '9');
        due("sign(3)", x.sign(3), NO_SUCH);
        due("sign(-1)", x.sign(-1), NO_SUCH);
        due("sign(MAX)", x.sign(MAX), NO_SUCH);
        x.wipe();
        due("sign(0) behind wipe", x.sign(0), NO_SUCH);
    }

    private static void count() {
        check.begin("promise 18");
        SaltPrices x = row();
        due("count(-1)", x.count(-1), BAD_VALUE);
        due("count(18)", x.count(18), BAD_VALUE);
        due("count(MIN)", x.count(MIN), BAD_VALUE);
        x.guard(0, 5);
        x.guard(1, 4);
        x.cart(0, 1000);
        x.cart(1, 600);
        x.buy(0, 6);
        x.buy(1, 2);
        x.sell(1, 1);
        x.go(0, 0, 1);
        x.set(SaltPrices.LEGS, 2);
        Check.putText(x, "abc");
        long[] dues = {2, 2, 9, 1, 8, 1, 6, 0, 0, 280 + 450, 1600, 149, 20, 10, 2, 12, 3, 6};
        for (int what = 0; what < dues.length; what++) {
            due("count(" + what + ")", x.count(what), dues[what]);
        }
        x.guard(0, 0);
        x.guard(1, 0);
        due("towns where hiding pays", x.count(8), 3);
        x.makeHonest();
        due("honest", x.count(7), 1);
        x.price(1, 101);
        due("not honest to town 1", x.count(7), 0);
        x.price(1, 99);
        due("not honest from town 1", x.count(7), 0);
    }

    private static void step() {
        check.begin("promise 19");
        SaltPrices x = new SaltPrices();
        due("step(8, 2)", x.step(8, 2), NO_SUCH);
        due("step(-1, 0)", x.step(-1, 0), NO_SUCH);
        due("step(0, 2)", x.step(0, 2), BAD_VALUE);
        due("step(0, -1)", x.step(0, -1), BAD_VALUE);
        x.set(SaltPrices.LEGS, 1);
        due("no road", x.step(0, 0), NONE);
        due("no road, hidden", x.step(0, 1), 0);
        x.road(0, 1, 0);
        due("none ahead of roads", x.step(0, 0), NONE);
        x.price(1, 200);
        due("road 0", x.step(0, 0), 0);
        due("openly ahead of hidden", x.step(0, 1), 0);
        x.toll(0, 1);
        due("road 0 hidden", x.step(0, 0), 0);
        due("hidden", x.step(0, 1), 1);
        x.road(1, 0, 0);
        due("road 0 hidden ahead of road 1 openly", x.step(0, 0), 0);
        due("hidden still", x.step(0, 1), 1);
        x.guard(0, 1);
        due("road 1 openly", x.step(0, 0), 1);
        due("openly", x.step(0, 1), 0);
        due("from the dear town", x.step(1, 0), NONE);
        x.price(2, 300);
        x.road(1, 2, 0);
        due("with one leg", x.step(0, 0), 1);
        x.set(SaltPrices.LEGS, 2);
        due("with two legs", x.step(0, 0), 1);
        due("from the middle waiting is as good", x.step(1, 0), NONE);
        x.set(SaltPrices.LEGS, 1);
        due("from the middle with one leg", x.step(1, 0), 2);
    }

    private static void fewestGuards() {
        check.begin("promise 20");
        SaltPrices x = new SaltPrices();
        due("fewestGuards(0) without roads", x.fewestGuards(0), NO_SUCH);
        x.road(0, 1, 0);
        due("fewestGuards(1)", x.fewestGuards(1), NO_SUCH);
        due("fewestGuards(-1)", x.fewestGuards(-1), NO_SUCH);
        due("the same prices", x.fewestGuards(0), 0);
        x.price(1, 150);
        due("70 * 150 less 600 is less than 10000", x.fewestGuards(0), 3);
        x.price(0, 200);
        x.price(1, 100);
        due("the other way round", x.fewestGuards(0), 5);
        x.set(SaltPrices.FINE, 0);
        due("half of them", x.fewestGuards(0), 5);
        x.price(0, 201);
        due("a bit more than half", x.fewestGuards(0), 6);
        x.set(SaltPrices.EYE, 1);
        x.price(1, 999);
        x.price(0, 599);
        due("59900 is less than 60 * 999", x.fewestGuards(0), NONE);
        x.price(0, 600);
        due("all 40 guards", x.fewestGuards(0), 40);
        x.set(SaltPrices.EYE, 30);
        x.price(0, 99);
        due("90 is the most", x.fewestGuards(0), NONE);
        x.price(0, 100);
        due("10 * 999 is not more than 10000", x.fewestGuards(0), 3);
        due("nothing changes", x.count(2), 0);
    }

    private static void mostPrice() {
        check.begin("promise 21");
        SaltPrices x = new SaltPrices();
        due("mostPrice(8)", x.mostPrice(8), NO_SUCH);
        due("mostPrice(-1)", x.mostPrice(-1), NO_SUCH);
        due("no road", x.mostPrice(0), 999);
        x.road(0, 1, 30);
        due("no guards", x.mostPrice(0), 100);
        x.guard(0, 1);
        due("one guard", x.mostPrice(0), 113);
        x.guard(0, 9);
        due("the toll", x.mostPrice(0), 130);
        x.road(2, 0, 10);
        x.guard(1, 3);
        due("the other road, to which it is the other town", x.mostPrice(0), 110);
        x.price(2, 500);
        due("the first road again", x.mostPrice(0), 130);
        x.price(1, 980);
        x.price(2, 995);
        due("no more than 999", x.mostPrice(0), 999);
        x.price(0, 1);
        due("its own price does not matter", x.mostPrice(0), 999);
        due("nothing changes", x.ofTown(0, 0), 1);
    }

    private static void ifHonest() {
        check.begin("promise 22");
        SaltPrices x = row();
        int changes = x.count(17);
        due("ifHonest()", x.ifHonest(), 2);
        due("no change", x.count(17), changes);
        due("town 1", x.ofTown(1, 0), 150);
        due("town 2", x.ofTown(2, 0), 160);
        x.price(0, 300);
        due("two others", x.ifHonest(), 2);
        x.price(1, 300);
        x.price(2, 300);
        due("all the same", x.ifHonest(), 0);
    }

    private static void wouldHave() {
        check.begin("promise 23");
        SaltPrices x = row();
        x.cart(0, 1000);
        due("wouldHave(1, 0, 0)", x.wouldHave(1, 0, 0), NO_SUCH);
        due("wouldHave(-1, 0, 0)", x.wouldHave(-1, 0, 0), NO_SUCH);
        due("wouldHave(0, 2, 2)", x.wouldHave(0, 2, 2), NO_SUCH);
        due("wouldHave(0, -1, 0)", x.wouldHave(0, -1, 0), NO_SUCH);
        due("wouldHave(0, 1, 2)", x.wouldHave(0, 1, 2), BAD_VALUE);
        due("wouldHave(0, 0, -1)", x.wouldHave(0, 0, -1), BAD_VALUE);
        due("wouldHave(0, 1, 0)", x.wouldHave(0, 1, 0), NOT_POSSIBLE);
        due("without sacks", x.wouldHave(0, 0, 0), 1000);
        due("without sacks, found", x.wouldHave(0, 0, 1), 1000);
        x.buy(0, 9);
        due("not found", x.wouldHave(0, 0, 0), 100 + 9 * 150);
        due("found, all coins", x.wouldHave(0, 0, 1), 0);
        x.set(SaltPrices.FINE, 11);
        due("found, a coin is left", x.wouldHave(0, 0, 1), 1);
        due("nothing changes", x.ofCart(0, 1) + x.ofCart(0, 0), 100);
        due("nothing is drawn", x.count(11), 1);
        x.cart(0, 99999);
        x.price(1, 999);
        x.buy(1, 99);
        due("above the bound of coins", x.wouldHave(1, 0, 0), 99999 - 9900 + 99 * 999);
    }

    private static void put() {
        check.begin("promise 24");
        SaltPrices x = new SaltPrices();
        due("put(0)", x.put(0), BAD_VALUE);
        due("a space", x.put(32), BAD_VALUE);
        due("code 127", x.put(127), BAD_VALUE);
        due("code 255", x.put(255), BAD_VALUE);
        due("a gap", x.put(0x410041L), BAD_VALUE);
        due("nothing at the end", x.put(0x4100L), BAD_VALUE);
        due("the highest alone", x.put(0x4100000000000000L), BAD_VALUE);
        due("a bit above", x.put(0x0100000000000041L), BAD_VALUE);
        due("the highest bit", x.put(Long.MIN_VALUE | 0x41), BAD_VALUE);
        due("all bits", x.put(-1), BAD_VALUE);
        due("the first of eight is bad", x.put(0x2041414141414141L), BAD_VALUE);
        due("the first of eight is above 127", x.put(0xC141414141414141L), BAD_VALUE);
        due("the last of eight is bad", x.put(0x4141414141414120L), BAD_VALUE);
        due("nothing was put", x.count(16), 0);
        due("code 33", x.put(33), 1);
        due("code 126", x.put(126), 2);
        due("eight", x.put(Check.packed("abcdefgh")), 10);
        due("three", x.put(Check.packed("xyz")), 13);
        due("the text", Check.padOf(x).equals("!~abcdefghxyz") ? 1 : 0, 1);
        due("no change", x.count(17), 0);
        x.wipe();
        for (int i = 1; i < 10; i++) {
            x.put(Check.packed("12345678"));
        }
        due("seven", x.put(Check.packed("1234567")), 79);
        due("two more", x.put(Check.packed("ab")), TOO_MANY);
        due("a bad value ahead of too many", x.put(Check.packed("a ")), BAD_VALUE);
        due("one more", x.put('a'), 80);
        due("and one more", x.put('b'), TOO_MANY);
        due("80", x.count(16), 80);
        due("the last", x.sign(79), 'a');
        due("no place 80", x.sign(80), NO_SUCH);
    }

    private static void wipe() {
        check.begin("promise 25");
        SaltPrices x = new SaltPrices();
        due("wipe() of none", x.wipe(), 0);
        Check.putText(x, "hello");
        due("wipe()", x.wipe(), 5);
        due("wipe() again", x.wipe(), 0);
        due("the length", x.count(16), 0);
        due("no change", x.count(17), 0);
    }

    private static void faultOf(String text, int want) {
        SaltPrices x = new SaltPrices();
        Check.putText(x, text);
        due("fault() of " + text, x.fault(), want);
        due("the pad of " + text, Check.padOf(x).equals(text) ? 1 : 0, 1);
    }

    private static void fault() {
        check.begin("promise 26");
        String[] good = {"r01*0", "r99*9999", "p9=1", "g0:0", "g9999:9999", "c0*10", "b5*100", "s9*1000", "o3:7", "h0:12",
            "p0=1;p1=2", "g10:3;o1:2;h1:2;b0*1;s0*1;c0*1;r01*1;p0=1"};
        for (String text : good) {
            faultOf(text, NONE);
        }
        String[] early = {"", "r", "r0", "r01", "r01*", "p", "p0", "p0=", "g", "g1", "g1:", "g9999", "c1", "c1*", "o", "o1",
            "h1:", "p0=1;", "p0=1;g1:"};
        for (String text : early) {
            faultOf(text, text.length());
        }
        String[] wrong = {"x", "R", "1", ";", "ra", "r0*", "r012", "r01:", "r01*a", "r01*05", "r01*00", "r01*10000",
            "p01", "p1*", "p1=;", "p1=5*", "ga", "g01", "g10000", "g12*", "g1:05", "g1:99990", "c12", "c1:", "c1=", "b1:",
            "s1:", "o1*", "o12", "h1*", "h1=", "p1=5;;", "p1=5;x", "p1=5,", "r-", "r01*-", "p/", "p:", "p1=/", "p1=:"};
        for (String text : wrong) {
            faultOf(text, text.length() - 1);
        }
        faultOf("r01*10000;zz", 8);
        faultOf("zp1=5", 0);
        faultOf("R01*5", 0);
        faultOf("r01:5", 3);
        faultOf("p1=5;p1=05;p1=5", 9);
        SaltPrices x = new SaltPrices();
        for (int i = 0; i < 16; i++) {
            Check.putText(x, i < 15 ? "p0=9;" : "p0=99");
        }
        due("80 characters", x.fault(), NONE);
        due("no change", x.count(17), 0);
    }

    private static void carryOut() {
        check.begin("promise 27");
        SaltPrices x = new SaltPrices();
        due("an empty pad", x.carryOut(), BAD_TEXT);
        Check.putText(x, "p0=5;");
        due("too early", x.carryOut(), BAD_TEXT);
        due("the pad stays", x.count(16), 5);
        due("no change", x.count(17), 0);
        due("nothing is done", x.ofTown(0, 0), 100);
        Check.putText(x, "p1=7");
        due("two prices", x.carryOut(), 2);
        due("town 0", x.ofTown(0, 0), 5);
        due("town 1", x.ofTown(1, 0), 7);
        due("the pad is empty", x.count(16), 0);
        due("one change", x.count(17), 1);
        Check.putText(x, "r05*12;g0:3;c0*1000;b0*7;s0*2;o0:0;h0:0;p2=9;r10*3");
        due("all orders", x.carryOut(), 9);
        int[] road = {0, 5, 12, 3};
        for (int what = 0; what < road.length; what++) {
            due("ofRoad(0, " + what + ")", x.ofRoad(0, what), road[what]);
        }
        due("openly", x.ofRoad(0, 7), 1);
        due("hidden", x.ofRoad(0, 8), 1);
        due("town 2", x.ofTown(2, 0), 9);
        due("road 1", x.ofRoad(1, 0) * 10 + x.ofRoad(1, 1), 10);
        due("bought for", x.ofCart(0, 3), 35);
        due("sold for", x.ofCart(0, 4), 10);
        due("tolls", x.ofCart(0, 5), 60);
        due("two changes", x.count(17), 2);
        Check.putText(x, "p0=50;p0=0;p0=70");
        due("up to the error", x.carryOut(), 1);
        due("of the first order", x.ofTown(0, 0), 50);
        due("the pad is empty", x.count(16), 0);
        due("three changes", x.count(17), 3);
        Check.putText(x, "r08*1;p0=70");
        due("none", x.carryOut(), 0);
        due("the pad is empty", x.count(16), 0);
        due("four changes", x.count(17), 4);
        due("undo()", x.undo(), 3);
        due("undo()", x.undo(), 2);
        due("the first order is undone", x.ofTown(0, 0), 5);
        due("undo()", x.undo(), 1);
        due("all orders are undone", x.count(0) + x.count(1), 0);
        Check.putText(x, "o0:99;p0=1");
        due("no such cart", x.carryOut(), 0);
        for (int i = 0; i < 16; i++) {
            Check.putText(x, i < 15 ? "p0=9;" : "p0=99");
        }
        due("80 characters", x.carryOut(), 16);
        due("the last one", x.ofTown(0, 0), 99);
    }

    private static void undo() {
        check.begin("promise 28");
        SaltPrices x = new SaltPrices();
        due("undo() of none", x.undo(), NOT_POSSIBLE);
        for (int i = 1; i <= 8; i++) {
            x.price(0, i);
            due("changes", x.count(17), Math.min(i, 6));
        }
        due("an error", x.price(0, 0), BAD_VALUE);
        due("records nothing", x.count(17), 6);
        Check.putText(x, "abc");
        x.save(0);
        for (int i = 5; i >= 0; i--) {
            due("undo()", x.undo(), i);
            due("the price", x.ofTown(0, 0), i + 2);
        }
        due("no more", x.undo(), NOT_POSSIBLE);
        due("the pad is as it was", x.count(16), 3);
        due("the slot is as it was", x.restore(0), 0);
        due("the saved price", x.ofTown(0, 0), 8);
        due("restore is a change", x.count(17), 1);
        due("undo restore", x.undo(), 0);
        due("the price", x.ofTown(0, 0), 2);
        undoEverything();
        everyChangeRecords();
    }

    private static void undoEverything() {
        SaltPrices x = row();
        x.guard(0, 9);
        x.cart(0, 1000);
        x.buy(0, 5);
        x.go(0, 0, 1);
        due("lost", x.count(6), 5);
        due("undo()", x.undo(), 5);
        int[] cart = {0, 500, 5, 500, 0, 0, 0, 0};
        for (int what = 0; what < cart.length; what++) {
            due("ofCart(0, " + what + ")", x.ofCart(0, what), cart[what]);
        }
        due("lost then", x.count(6), 0);
        due("x", x.count(11), 1);
        due("hidden", x.ofRoad(0, 8), 0);
        x.sell(0, 1);
        x.set(SaltPrices.FINE, 30);
        x.makeHonest();
        due("undo()", x.undo(), 5);
        due("the price", x.ofTown(2, 0), 160);
        due("undo()", x.undo(), 4);
        due("the fine", x.count(12), 20);
        due("undo()", x.undo(), 3);
        due("sold", x.count(5), 0);
        due("undo()", x.undo(), 2);
        due("bought", x.count(4), 0);
        due("undo()", x.undo(), 1);
        due("coins that came", x.count(10), 0);
        due("carts", x.count(1), 0);
        due("undo()", x.undo(), 0);
        due("guards", x.count(2), 0);
    }

    private static void everyChangeRecords() {
        SaltPrices x = new SaltPrices();
        x.set(0, 20);
        due("set", x.count(17), 1);
        x.road(0, 1, 0);
        due("road", x.count(17), 2);
        x.price(0, 100);
        due("price", x.count(17), 3);
        x.guard(0, 0);
        due("guard", x.count(17), 4);
        x.toll(0, 0);
        due("toll", x.count(17), 5);
        x.makeHonest();
        due("makeHonest", x.count(17), 6);
        for (int i = 0; i < 4; i++) {
            x.undo();
        }
        x.cart(0, 1000);
        due("cart", x.count(17), 3);
        x.buy(0, 1);
        due("buy", x.count(17), 4);
        x.sell(0, 1);
        due("sell", x.count(17), 5);
        x.go(0, 0, 0);
        due("go", x.count(17), 6);
        x.undo();
        x.undo();
        x.write();
        x.fault();
        x.save(1);
        due("no changes", x.count(17), 4);
    }

    private static void save() {
        check.begin("promise 29");
        SaltPrices x = new SaltPrices();
        due("save(-1)", x.save(-1), BAD_VALUE);
        due("save(2)", x.save(2), BAD_VALUE);
        due("save(0)", x.save(0), 0);
        x.cart(0, 1);
        x.price(0, 5);
        due("save(1)", x.save(1), 1);
        due("no change", x.count(17), 2);
        x.cart(0, 1);
        x.price(0, 6);
        due("save(1) again", x.save(1), 2);
        x.price(0, 7);
        due("the later one", x.restore(1), 2);
        due("its price", x.ofTown(0, 0), 6);
        due("the other slot", x.restore(0), 0);
        due("its price", x.ofTown(0, 0), 100);
    }

    private static void restore() {
        check.begin("promise 30");
        SaltPrices x = row();
        due("restore(-1)", x.restore(-1), BAD_VALUE);
        due("restore(2)", x.restore(2), BAD_VALUE);
        due("restore(0) of none", x.restore(0), NOT_POSSIBLE);
        due("restore(1) of none", x.restore(1), NOT_POSSIBLE);
        x.cart(0, 1000);
        x.guard(0, 9);
        x.buy(0, 3);
        x.go(0, 0, 1);
        x.save(1);
        change(x, 7);
        due("restore(0) of none still", x.restore(0), NOT_POSSIBLE);
        x.set(SaltPrices.EYE, 30);
        x.toll(0, 3);
        x.guard(0, 1);
        x.cart(3, 5);
        x.road(3, 4, 5);
        x.go(0, 1, 0);
        Check.putText(x, "abc");
        due("restore(1)", x.restore(1), 1);
        due("EYE", x.count(13), 10);
        due("toll", x.ofRoad(0, 2), 20);
        due("guards", x.count(2), 9);
        due("roads", x.count(0), 2);
        due("its town", x.ofCart(0, 0), 1);
        due("x", x.count(11), 149);
        due("lost", x.count(6), 3);
        due("open trips", x.ofRoad(1, 7), 0);
        due("the pad stays", x.count(16), 3);
        due("the history is full", x.count(17), 6);
        x.price(0, 77);
        due("the slot keeps it", x.restore(1), 1);
        due("town 0", x.ofTown(0, 0), 100);
        due("undo()", x.undo(), 5);
        due("town 0 ahead of it", x.ofTown(0, 0), 77);
        due("undo()", x.undo(), 4);
        due("undo()", x.undo(), 3);
        due("the road is back", x.count(0), 3);
        due("its town ahead of it", x.ofCart(0, 0), 2);
    }
}
