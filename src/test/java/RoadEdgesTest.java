/** Promises 1 to 7 at their edges: a new object, settings, roads, prices, guards, tolls, honest prices. */
public final class RoadEdgesTest extends Edges {
    private static final int[] LEAST = {0, 1, 1, 0};
    private static final int[] MOST = {500, 30, 4, 40};
    private static final int[] FIRST = {20, 10, 3, 12};

    public static void main(String[] args) throws Exception {
        Sentences.run(RoadEdgesTest.class);
    }

    // ---- promise 1

    /** "There are 8 towns, 0 to 7, each with a price of a sack of salt (100 at first)." */
    private static void promise01TownsAtFirst() {
        SaltPrices x = new SaltPrices();
        for (int town = 0; town < 8; town++) {
            due("ofTown(" + town + ", 0)", x.ofTown(town, 0), 100);
        }
        due("ofTown(8, 0)", x.ofTown(8, 0), NO_SUCH);
        due("ofTown(-1, 0)", x.ofTown(-1, 0), NO_SUCH);
    }

    /** "Creates towns without roads and carts." */
    private static void promise01NoRoadsAndCarts() {
        SaltPrices x = new SaltPrices();
        due("count(0)", x.count(0), 0);
        due("count(1)", x.count(1), 0);
        due("ofRoad(0, 0)", x.ofRoad(0, 0), NO_SUCH);
        due("ofCart(0, 0)", x.ofCart(0, 0), NO_SUCH);
        for (int town = 0; town < 8; town++) {
            due("ofTown(" + town + ", 1)", x.ofTown(town, 1), 0);
            due("ofTown(" + town + ", 2)", x.ofTown(town, 2), 0);
        }
    }

    /** "(In parentheses: range; first value.)" */
    private static void promise01FirstSettings() {
        SaltPrices x = new SaltPrices();
        for (int setting = 0; setting < 4; setting++) {
            due("count(" + (12 + setting) + ")", x.count(12 + setting), FIRST[setting]);
        }
    }

    /** "x (1 at first)" */
    private static void promise01FirstX() {
        due("count(11)", new SaltPrices().count(11), 1);
    }

    /** Nothing was put, changed or saved: the pad, the history and the slots are empty. */
    private static void promise01NothingWasThere() {
        SaltPrices x = new SaltPrices();
        due("count(16)", x.count(16), 0);
        due("sign(0)", x.sign(0), NO_SUCH);
        due("count(17)", x.count(17), 0);
        due("undo()", x.undo(), NOT_POSSIBLE);
        due("restore(0)", x.restore(0), NOT_POSSIBLE);
        due("restore(1)", x.restore(1), NOT_POSSIBLE);
        int[] sums = {2, 3, 4, 5, 6, 9, 10};
        for (int what : sums) {
            due("count(" + what + ")", x.count(what), 0);
        }
    }

    /** "Prices are honest if all roads are honest", also if there is none; and hiding pays nowhere. */
    private static void promise01HonestWithoutRoads() {
        SaltPrices x = new SaltPrices();
        due("count(7)", x.count(7), 1);
        due("count(8)", x.count(8), 0);
        x.price(0, 1);
        x.price(7, 999);
        due("count(7) with unlike prices", x.count(7), 1);
        due("count(8) with unlike prices", x.count(8), 0);
    }

    /** What one object does, another one does not see. */
    private static void promise01ObjectsAreApart() {
        SaltPrices x = new SaltPrices();
        SaltPrices other = new SaltPrices();
        x.road(0, 1, 5);
        x.cart(0, 5);
        x.price(0, 5);
        x.set(FINE, 5);
        x.put('a');
        x.save(0);
        dueText("the other object", Everything.of(other), Everything.of(new SaltPrices()));
        due("restore(0) of the other object", other.restore(0), NOT_POSSIBLE);
    }

    /** "An object is used for at most 512 calls after it has been made": up to the last of them, answers are as due. */
    private static void promise01The512thCall() {
        SaltPrices x = new SaltPrices();
        x.road(0, 1, 200);
        x.cart(0, 99999);
        for (int call = 3; call <= 510; call++) {
            due("go(0, 0, 0), call " + call, x.go(0, 0, 0), 0);
        }
        due("ofRoad(0, 7), call 511", x.ofRoad(0, 7), 508);
        due("undo(), call 512", x.undo(), 5);
    }

    /** Sums of 512 calls are told as they are: 99 sacks for 999 coins each, bought and sold 253 times. */
    private static void promise01SumsOf512Calls() {
        SaltPrices x = new SaltPrices();
        x.price(0, 999);
        x.cart(0, 99999);
        for (int i = 0; i < 253; i++) {
            due("buy(0, 99)", x.buy(0, 99), 1098);
            due("sell(0, 99)", x.sell(0, 99), 99999);
        }
        due("ofCart(0, 3)", x.ofCart(0, 3), 253 * 98901);
        due("ofCart(0, 4)", x.ofCart(0, 4), 253 * 98901);
        due("count(4)", x.count(4), 253 * 99);
        due("count(5), call 512", x.count(5), 253 * 99);
    }

    // ---- promise 2

    /** "BAD_VALUE if there is no such setting" */
    private static void promise02NoSuchSetting() {
        SaltPrices x = new SaltPrices();
        for (int setting : new int[] {-1, 4, 5, 12, 256, MIN, MAX}) {
            due("set(" + setting + ", 1)", x.set(setting, 1), BAD_VALUE);
        }
        due("count(17)", x.count(17), 0);
    }

    /** "BAD_VALUE if the value is out of its range", one below it or far below it. */
    private static void promise02BelowItsRange() {
        SaltPrices x = new SaltPrices();
        for (int setting = 0; setting < 4; setting++) {
            due("set(" + setting + ", least - 1)", x.set(setting, LEAST[setting] - 1), BAD_VALUE);
            due("set(" + setting + ", MIN)", x.set(setting, MIN), BAD_VALUE);
            due("count(" + (12 + setting) + ")", x.count(12 + setting), FIRST[setting]);
        }
        due("count(17)", x.count(17), 0);
    }

    /** "BAD_VALUE if the value is out of its range", one above it or far above it. */
    private static void promise02AboveItsRange() {
        SaltPrices x = new SaltPrices();
        for (int setting = 0; setting < 4; setting++) {
            due("set(" + setting + ", most + 1)", x.set(setting, MOST[setting] + 1), BAD_VALUE);
            due("set(" + setting + ", MAX)", x.set(setting, MAX), BAD_VALUE);
            due("count(" + (12 + setting) + ")", x.count(12 + setting), FIRST[setting]);
        }
        due("count(17)", x.count(17), 0);
    }

    /** "FINE (0 to 500; 20), EYE (1 to 30; 10), LEGS (1 to 4; 3), POOL (0 to 40; 12)", and the previous value. */
    private static void promise02AtTheEndsOfItsRange() {
        SaltPrices x = new SaltPrices();
        for (int setting = 0; setting < 4; setting++) {
            due("set(" + setting + ", least)", x.set(setting, LEAST[setting]), FIRST[setting]);
            due("count(" + (12 + setting) + ")", x.count(12 + setting), LEAST[setting]);
            due("set(" + setting + ", most)", x.set(setting, MOST[setting]), LEAST[setting]);
            due("count(" + (12 + setting) + ")", x.count(12 + setting), MOST[setting]);
            due("set(" + setting + ", most) again", x.set(setting, MOST[setting]), MOST[setting]);
        }
    }

    /** A setting leaves the other ones as they are. */
    private static void promise02EachByItself() {
        for (int setting = 0; setting < 4; setting++) {
            SaltPrices x = new SaltPrices();
            x.set(setting, LEAST[setting]);
            for (int other = 0; other < 4; other++) {
                due("count(" + (12 + other) + ")", x.count(12 + other), other == setting ? LEAST[other] : FIRST[other]);
            }
        }
    }

    /** "NOT_POSSIBLE if it is POOL, and more guards are at roads": one more, at two roads together. */
    private static void promise02PoolBelowTheGuards() {
        SaltPrices x = withRoads(1, 12);
        x.guard(0, 7);
        x.guard(1, 3);
        due("set(POOL, 9)", x.set(POOL, 9), NOT_POSSIBLE);
        due("set(POOL, 0)", x.set(POOL, 0), NOT_POSSIBLE);
        due("count(15)", x.count(15), 12);
        due("count(2)", x.count(2), 10);
    }

    /** As many guards as POOL are not more. */
    private static void promise02PoolAsManyAsTheGuards() {
        SaltPrices x = withRoads(1, 12);
        x.guard(0, 7);
        x.guard(1, 3);
        due("set(POOL, 10)", x.set(POOL, 10), 12);
        x.guard(0, 0);
        x.guard(1, 0);
        due("set(POOL, 0)", x.set(POOL, 0), 10);
        due("guard(0, 1)", x.guard(0, 1), NOT_POSSIBLE);
    }

    /** Only POOL asks how many guards are at roads. */
    private static void promise02OtherSettingsBelowTheGuards() {
        SaltPrices x = withRoads(1);
        x.guard(0, 12);
        due("set(FINE, 0)", x.set(FINE, 0), 20);
        due("set(EYE, 1)", x.set(EYE, 1), 10);
        due("set(LEGS, 1)", x.set(LEGS, 1), 3);
    }

    /** BAD_VALUE is told ahead of NOT_POSSIBLE. */
    private static void promise02BadValueFirst() {
        SaltPrices x = withRoads(1);
        x.guard(0, 12);
        due("set(POOL, -1)", x.set(POOL, -1), BAD_VALUE);
        due("set(POOL, MIN)", x.set(POOL, MIN), BAD_VALUE);
    }

    // ---- promise 3

    /** "NO_SUCH if there is no such town", the first one or the other one. */
    private static void promise03NoSuchTown() {
        SaltPrices x = new SaltPrices();
        for (int town : new int[] {-1, 8, 256, MIN, MAX}) {
            due("road(" + town + ", 0, 0)", x.road(town, 0, 0), NO_SUCH);
            due("road(7, " + town + ", 0)", x.road(7, town, 0), NO_SUCH);
        }
        due("count(0)", x.count(0), 0);
        due("count(17)", x.count(17), 0);
    }

    /** Towns are 0 to 7. */
    private static void promise03FirstAndLastTown() {
        SaltPrices x = new SaltPrices();
        due("road(0, 7, 0)", x.road(0, 7, 0), 0);
        due("road(7, 0, 0)", x.road(7, 0, 0), 1);
        due("ofRoad(0, 0)", x.ofRoad(0, 0), 0);
        due("ofRoad(0, 1)", x.ofRoad(0, 1), 7);
        due("ofRoad(1, 0)", x.ofRoad(1, 0), 7);
        due("ofRoad(1, 1)", x.ofRoad(1, 1), 0);
    }

    /** "BAD_VALUE if both towns are the same" */
    private static void promise03SameTowns() {
        SaltPrices x = new SaltPrices();
        for (int town = 0; town < 8; town++) {
            due("road(" + town + ", " + town + ", 5)", x.road(town, town, 5), BAD_VALUE);
        }
        due("count(0)", x.count(0), 0);
    }

    /** "toll: 0 to 200", else BAD_VALUE. */
    private static void promise03Toll() {
        SaltPrices x = new SaltPrices();
        for (int toll : new int[] {-1, 201, MIN, MAX}) {
            due("road(0, 1, " + toll + ")", x.road(0, 1, toll), BAD_VALUE);
        }
        due("count(0)", x.count(0), 0);
        due("road(0, 1, 0)", x.road(0, 1, 0), 0);
        due("road(0, 1, 200)", x.road(0, 1, 200), 1);
        due("ofRoad(0, 2)", x.ofRoad(0, 2), 0);
        due("ofRoad(1, 2)", x.ofRoad(1, 2), 200);
    }

    /** "TOO_MANY if there are 14 roads": the 14th one still comes, and has the number 13. */
    private static void promise03FourteenRoads() {
        SaltPrices x = new SaltPrices();
        for (int road = 0; road < 14; road++) {
            due("road " + road, x.road(road % 7, 7, road), road);
        }
        due("road(0, 1, 0)", x.road(0, 1, 0), TOO_MANY);
        due("road(0, 1, 0) again", x.road(0, 1, 0), TOO_MANY);
        due("count(0)", x.count(0), 14);
        for (int road = 0; road < 14; road++) {
            due("toll of " + road, x.ofRoad(road, 2), road);
        }
        due("ofRoad(14, 0)", x.ofRoad(14, 0), NO_SUCH);
        x.undo();
        due("road(1, 0, 9) in the free place", x.road(1, 0, 9), 13);
        due("ofRoad(13, 2)", x.ofRoad(13, 2), 9);
    }

    /** NO_SUCH is told ahead of BAD_VALUE, and both ahead of TOO_MANY. */
    private static void promise03OrderOfErrors() {
        SaltPrices x = new SaltPrices();
        due("road(8, 8, 0)", x.road(8, 8, 0), NO_SUCH);
        due("road(-1, -1, 201)", x.road(-1, -1, 201), NO_SUCH);
        due("road(0, 8, -1)", x.road(0, 8, -1), NO_SUCH);
        for (int road = 0; road < 14; road++) {
            x.road(0, 1, 0);
        }
        due("road(0, 8, 0) of 14", x.road(0, 8, 0), NO_SUCH);
        due("road(3, 3, 0) of 14", x.road(3, 3, 0), BAD_VALUE);
        due("road(0, 1, 201) of 14", x.road(0, 1, 201), BAD_VALUE);
    }

    /** "each between two unlike towns (perhaps several between the same two)" */
    private static void promise03SeveralBetweenTheSameTwo() {
        SaltPrices x = new SaltPrices();
        due("road(2, 3, 1)", x.road(2, 3, 1), 0);
        due("road(2, 3, 1) again", x.road(2, 3, 1), 1);
        due("road(3, 2, 1)", x.road(3, 2, 1), 2);
        due("ofTown(2, 1)", x.ofTown(2, 1), 7);
    }

    /** "A road comes, without guards", and nobody went over it, also where a road with them was undone. */
    private static void promise03NewRoadIsBare() {
        SaltPrices x = new SaltPrices();
        x.save(0);
        x.road(0, 1, 0);
        x.guard(0, 12);
        x.cart(0, 0);
        x.go(0, 0, 0);
        x.go(0, 0, 1);
        x.restore(0);
        x.road(1, 2, 3);
        int[] bare = {1, 2, 3, 0, 0};
        for (int what = 0; what < bare.length; what++) {
            due("ofRoad(0, " + what + ")", x.ofRoad(0, what), bare[what]);
        }
        due("ofRoad(0, 7)", x.ofRoad(0, 7), 0);
        due("ofRoad(0, 8)", x.ofRoad(0, 8), 0);
        due("count(2)", x.count(2), 0);
    }

    // ---- promise 4

    /** "NO_SUCH if there is no such town" */
    private static void promise04NoSuchTown() {
        SaltPrices x = new SaltPrices();
        for (int town : new int[] {-1, 8, 256, MIN, MAX}) {
            due("price(" + town + ", 5)", x.price(town, 5), NO_SUCH);
        }
        due("count(17)", x.count(17), 0);
    }

    /** "price: 1 to 999", else BAD_VALUE. */
    private static void promise04OutOfRange() {
        SaltPrices x = new SaltPrices();
        for (int price : new int[] {0, -1, 1000, MIN, MAX}) {
            due("price(3, " + price + ")", x.price(3, price), BAD_VALUE);
        }
        due("ofTown(3, 0)", x.ofTown(3, 0), 100);
        due("count(17)", x.count(17), 0);
    }

    /** 1 and 999 are in the range; "Returns the previous one". */
    private static void promise04AtTheEndsOfItsRange() {
        SaltPrices x = new SaltPrices();
        for (int town = 0; town < 8; town += 7) {
            due("price(" + town + ", 1)", x.price(town, 1), 100);
            due("price(" + town + ", 999)", x.price(town, 999), 1);
            due("price(" + town + ", 999) again", x.price(town, 999), 999);
            due("ofTown(" + town + ", 0)", x.ofTown(town, 0), 999);
        }
        due("ofTown(1, 0)", x.ofTown(1, 0), 100);
        due("ofTown(6, 0)", x.ofTown(6, 0), 100);
    }

    /** NO_SUCH is told ahead of BAD_VALUE. */
    private static void promise04OrderOfErrors() {
        SaltPrices x = new SaltPrices();
        due("price(8, 0)", x.price(8, 0), NO_SUCH);
        due("price(-1, 1000)", x.price(-1, 1000), NO_SUCH);
    }

    // ---- promise 5

    /** "NO_SUCH if there is no such road" */
    private static void promise05NoSuchRoad() {
        SaltPrices x = new SaltPrices();
        due("guard(0, 0) without roads", x.guard(0, 0), NO_SUCH);
        x.road(0, 1, 0);
        for (int road : new int[] {-1, 1, 13, 14, MIN, MAX}) {
            due("guard(" + road + ", 0)", x.guard(road, 0), NO_SUCH);
        }
        due("count(17)", x.count(17), 1);
    }

    /** "guards: 0 to 40", else BAD_VALUE. */
    private static void promise05OutOfRange() {
        SaltPrices x = withRoads(1);
        x.set(POOL, 40);
        for (int guards : new int[] {-1, 41, MIN, MAX}) {
            due("guard(0, " + guards + ")", x.guard(0, guards), BAD_VALUE);
        }
        due("count(2)", x.count(2), 0);
        due("guard(0, 40)", x.guard(0, 40), 0);
        due("guard(0, 0)", x.guard(0, 0), 40);
        due("guard(0, 0) again", x.guard(0, 0), 0);
    }

    /** "NOT_POSSIBLE if all roads would have more than POOL together" */
    private static void promise05MoreThanPool() {
        SaltPrices x = withRoads(1, 12, 23);
        due("guard(0, 13)", x.guard(0, 13), NOT_POSSIBLE);
        due("guard(0, 4)", x.guard(0, 4), 0);
        due("guard(1, 5)", x.guard(1, 5), 0);
        due("guard(2, 4)", x.guard(2, 4), NOT_POSSIBLE);
        due("ofRoad(2, 3)", x.ofRoad(2, 3), 0);
        due("guard(1, 9)", x.guard(1, 9), NOT_POSSIBLE);
        due("ofRoad(1, 3)", x.ofRoad(1, 3), 5);
        due("count(2)", x.count(2), 9);
    }

    /** As many as POOL are not more; the guards that the road has already do not count twice. */
    private static void promise05AsManyAsPool() {
        SaltPrices x = withRoads(1, 12);
        due("guard(0, 5)", x.guard(0, 5), 0);
        due("guard(1, 7)", x.guard(1, 7), 0);
        due("count(2)", x.count(2), 12);
        due("guard(1, 7) again", x.guard(1, 7), 7);
        due("guard(0, 6)", x.guard(0, 6), NOT_POSSIBLE);
        due("guard(1, 6)", x.guard(1, 6), 7);
        due("guard(0, 6) then", x.guard(0, 6), 5);
    }

    /** POOL may be 0: no road gets a guard then. */
    private static void promise05EmptyPool() {
        SaltPrices x = withRoads(1);
        x.set(POOL, 0);
        due("guard(0, 0)", x.guard(0, 0), 0);
        due("guard(0, 1)", x.guard(0, 1), NOT_POSSIBLE);
    }

    /** NO_SUCH is told ahead of BAD_VALUE, BAD_VALUE ahead of NOT_POSSIBLE. */
    private static void promise05OrderOfErrors() {
        SaltPrices x = withRoads(1);
        due("guard(1, -1)", x.guard(1, -1), NO_SUCH);
        due("guard(1, 41)", x.guard(1, 41), NO_SUCH);
        due("guard(1, 13)", x.guard(1, 13), NO_SUCH);
        due("guard(0, 41)", x.guard(0, 41), BAD_VALUE);
    }

    // ---- promise 6

    /** "NO_SUCH if there is no such road" */
    private static void promise06NoSuchRoad() {
        SaltPrices x = new SaltPrices();
        due("toll(0, 0) without roads", x.toll(0, 0), NO_SUCH);
        x.road(0, 1, 0);
        for (int road : new int[] {-1, 1, 13, 14, MIN, MAX}) {
            due("toll(" + road + ", 0)", x.toll(road, 0), NO_SUCH);
        }
        due("count(17)", x.count(17), 1);
    }

    /** "toll: 0 to 200", else BAD_VALUE. */
    private static void promise06OutOfRange() {
        SaltPrices x = new SaltPrices();
        x.road(0, 1, 7);
        for (int toll : new int[] {-1, 201, MIN, MAX}) {
            due("toll(0, " + toll + ")", x.toll(0, toll), BAD_VALUE);
        }
        due("ofRoad(0, 2)", x.ofRoad(0, 2), 7);
        due("count(17)", x.count(17), 1);
    }

    /** 0 and 200 are in the range; "Returns the previous one". */
    private static void promise06AtTheEndsOfItsRange() {
        SaltPrices x = withRoads(1, 1);
        due("toll(0, 200)", x.toll(0, 200), 0);
        due("ofRoad(0, 2)", x.ofRoad(0, 2), 200);
        due("toll(0, 0)", x.toll(0, 0), 200);
        due("toll(0, 0) again", x.toll(0, 0), 0);
        due("ofRoad(1, 2)", x.ofRoad(1, 2), 0);
    }

    /** NO_SUCH is told ahead of BAD_VALUE. */
    private static void promise06OrderOfErrors() {
        SaltPrices x = withRoads(1);
        due("toll(1, -1)", x.toll(1, -1), NO_SUCH);
        due("toll(-1, 201)", x.toll(-1, 201), NO_SUCH);
    }

    // ---- promise 7

    /** Without roads no town gets another price; it is a change all the same. */
    private static void promise07WithoutRoads() {
        SaltPrices x = new SaltPrices();
        x.price(0, 1);
        x.price(1, 999);
        due("makeHonest()", x.makeHonest(), 0);
        due("ofTown(0, 0)", x.ofTown(0, 0), 1);
        due("ofTown(1, 0)", x.ofTown(1, 0), 999);
        due("count(17)", x.count(17), 3);
    }

    /** "if 100 * q is not more than 100 * (p + toll)": the same stays, one more is lowered by one. */
    private static void promise07AtTheToll() {
        SaltPrices x = new SaltPrices();
        x.road(0, 1, 30);
        x.guard(0, 9);
        x.price(1, 130);
        due("makeHonest() at 130", x.makeHonest(), 0);
        due("ofTown(1, 0)", x.ofTown(1, 0), 130);
        x.price(1, 131);
        due("makeHonest() at 131", x.makeHonest(), 1);
        due("ofTown(1, 0)", x.ofTown(1, 0), 130);
    }

    /** "(100 - chance) * q less chance * FINE is not more than 100 * p", exactly at 60 * 180 less 40 * 20. */
    private static void promise07AtTheHiddenPrice() {
        SaltPrices x = new SaltPrices();
        x.road(0, 1, 200);
        x.guard(0, 4);
        x.price(1, 180);
        due("makeHonest() at 180", x.makeHonest(), 0);
        x.price(1, 181);
        due("makeHonest() at 181", x.makeHonest(), 1);
        due("ofTown(1, 0)", x.ofTown(1, 0), 180);
    }

    /** "the greatest price with which it is": 10200 / 90 is 113 and a bit, and 113 it is. */
    private static void promise07RoundedDown() {
        SaltPrices x = new SaltPrices();
        x.road(0, 1, 200);
        x.guard(0, 1);
        x.price(1, 114);
        due("makeHonest() at 114", x.makeHonest(), 1);
        due("ofTown(1, 0)", x.ofTown(1, 0), 113);
        due("makeHonest() at 113", x.makeHonest(), 0);
    }

    /** Without guards a road's end gets the price of its start, from 1 coin as well. */
    private static void promise07WithoutGuards() {
        SaltPrices x = new SaltPrices();
        x.road(0, 1, 200);
        x.price(0, 1);
        x.price(1, 999);
        due("makeHonest()", x.makeHonest(), 1);
        due("ofTown(0, 0)", x.ofTown(0, 0), 1);
        due("ofTown(1, 0)", x.ofTown(1, 0), 1);
    }

    /** With the greatest fine and chance a price may be up to the toll above: (100 + 90 * 500) / 10 is more. */
    private static void promise07GreatestChance() {
        SaltPrices x = new SaltPrices();
        x.road(0, 1, 200);
        x.set(FINE, 500);
        x.set(EYE, 30);
        x.guard(0, 12);
        x.price(0, 1);
        x.price(1, 999);
        due("makeHonest()", x.makeHonest(), 1);
        due("ofTown(1, 0)", x.ofTown(1, 0), 201);
        x.set(FINE, 0);
        due("makeHonest() without a fine", x.makeHonest(), 1);
        due("100 / 10", x.ofTown(1, 0), 10);
    }

    /** A road is to be honest in both directions: also the first town is lowered. */
    private static void promise07BothDirections() {
        SaltPrices x = new SaltPrices();
        x.road(0, 1, 30);
        x.guard(0, 9);
        x.price(0, 131);
        due("makeHonest()", x.makeHonest(), 1);
        due("ofTown(0, 0)", x.ofTown(0, 0), 130);
        due("ofTown(1, 0)", x.ofTown(1, 0), 100);
    }

    /** Of several roads between the same two, the lowest bound holds. */
    private static void promise07SeveralRoads() {
        SaltPrices x = new SaltPrices();
        x.road(0, 1, 50);
        x.road(1, 0, 20);
        x.road(0, 1, 90);
        x.guard(0, 4);
        x.guard(1, 4);
        x.guard(2, 4);
        x.price(1, 999);
        due("makeHonest()", x.makeHonest(), 1);
        due("ofTown(1, 0)", x.ofTown(1, 0), 120);
    }

    /** "as long as some road is not honest": a town that is lowered twice counts once, and the last road is honest. */
    private static void promise07AcrossAllTowns() {
        SaltPrices x = new SaltPrices();
        x.set(POOL, 40);
        x.set(EYE, 30);
        x.set(FINE, 500);
        for (int town = 6; town >= 0; town--) {
            x.road(town + 1, town, 10);
            x.guard(6 - town, 3);
        }
        for (int town = 1; town < 8; town++) {
            x.price(town, 900 + town);
        }
        due("makeHonest()", x.makeHonest(), 7);
        for (int town = 0; town < 8; town++) {
            due("ofTown(" + town + ", 0)", x.ofTown(town, 0), 100 + 10 * town);
        }
        due("count(7)", x.count(7), 1);
        due("makeHonest() again", x.makeHonest(), 0);
    }

    /** The first road is made honest first, and is not honest any more when the second one has lowered its start. */
    private static void promise07AFirstRoadOnceMore() {
        SaltPrices x = withRoads(1, 12);
        x.price(0, 300);
        x.price(1, 200);
        x.price(2, 50);
        due("makeHonest()", x.makeHonest(), 2);
        due("ofTown(0, 0)", x.ofTown(0, 0), 50);
        due("ofTown(1, 0)", x.ofTown(1, 0), 50);
        due("ofTown(2, 0)", x.ofTown(2, 0), 50);
    }

    /** Towns without roads keep their prices. */
    private static void promise07TownsWithoutRoads() {
        SaltPrices x = withRoads(1);
        x.price(1, 999);
        x.price(7, 999);
        due("makeHonest()", x.makeHonest(), 1);
        due("ofTown(7, 0)", x.ofTown(7, 0), 999);
    }
}
