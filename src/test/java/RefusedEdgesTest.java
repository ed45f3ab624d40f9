/**
 * "A call that returns an error changes nothing": each method's errors, on an object with 14 roads, 6 carts, a full
 * history, one slot saved and a text in the pad. An object on which the call was refused is compared with one on which
 * it was never made: as it stands, behind undo, behind six of them, and behind restore.
 */
public final class RefusedEdgesTest extends Edges {
    private interface Call {
        long on(SaltPrices x);
    }

    public static void main(String[] args) throws Exception {
        Sentences.run(RefusedEdgesTest.class);
    }

    private static SaltPrices full() {
        SaltPrices x = new SaltPrices();
        for (int town = 0; town < 7; town++) {
            x.road(town, 7, 200 - town);
        }
        for (int town = 0; town < 6; town++) {
            x.road(town, 6, 193 - town);
        }
        x.road(6, 5, 187);
        x.cart(0, 549);
        x.cart(1, 99999);
        x.cart(2, 99999);
        x.cart(3, 0);
        x.cart(0, 7);
        x.cart(7, 1000);
        x.save(0);
        put(x, "p0=5;x");
        x.buy(1, 99);
        x.guard(0, 4);
        x.guard(13, 6);
        x.buy(2, 1);
        x.price(2, 999);
        x.buy(0, 5);
        return x;
    }

    private static SaltPrices fullWithFullPad() {
        SaltPrices x = full();
        x.wipe();
        for (int i = 0; i < 10; i++) {
            put(x, "p0=5;p1=");
        }
        return x;
    }

    private static void dueRefused(String name, long error, Call call) {
        dueTheSame(name, error, call, x -> 0);
        dueTheSame(name + ", then undo()", error, call, x -> x.undo());
        dueTheSame(name + ", then undo() six times", error, call, RefusedEdgesTest::undoAll);
        dueTheSame(name + ", then restore(0)", error, call, x -> x.restore(0));
        dueTheSame(name + ", then restore(1)", error, call, x -> x.restore(1));
    }

    private static long undoAll(SaltPrices x) {
        long answer = 0;
        for (int i = 0; i < 6; i++) {
            answer = 10 * answer + x.undo();
        }
        return answer;
    }

    private static void dueTheSame(String name, long error, Call call, Call then) {
        SaltPrices x = full();
        SaltPrices other = full();
        due(name, call.on(x), error);
        due(name + ": its answer", then.on(x), then.on(other));
        dueText(name + ": all", Everything.of(x), Everything.of(other));
    }

    /** The object of these tests is as full as it is meant to be. */
    private static void promise01AsFullAsMeant() {
        SaltPrices x = full();
        due("roads", x.count(0), 14);
        due("carts", x.count(1), 6);
        due("guards", x.count(2), 10);
        due("sacks", x.count(3), 105);
        due("changes", x.count(17), 6);
        due("the pad", x.count(16), 6);
        due("the last road's town", x.ofRoad(13, 1), 5);
    }

    private static void promise02Set() {
        dueRefused("set(-1, 5)", BAD_VALUE, x -> x.set(-1, 5));
        dueRefused("set(4, 5)", BAD_VALUE, x -> x.set(4, 5));
        dueRefused("set(FINE, 501)", BAD_VALUE, x -> x.set(FINE, 501));
        dueRefused("set(EYE, 0)", BAD_VALUE, x -> x.set(EYE, 0));
        dueRefused("set(LEGS, 5)", BAD_VALUE, x -> x.set(LEGS, 5));
        dueRefused("set(POOL, -1)", BAD_VALUE, x -> x.set(POOL, -1));
        dueRefused("set(POOL, 9)", NOT_POSSIBLE, x -> x.set(POOL, 9));
    }

    private static void promise03Road() {
        dueRefused("road(8, 0, 0)", NO_SUCH, x -> x.road(8, 0, 0));
        dueRefused("road(0, -1, 0)", NO_SUCH, x -> x.road(0, -1, 0));
        dueRefused("road(2, 2, 0)", BAD_VALUE, x -> x.road(2, 2, 0));
        dueRefused("road(0, 1, 201)", BAD_VALUE, x -> x.road(0, 1, 201));
        dueRefused("road(0, 1, 0)", TOO_MANY, x -> x.road(0, 1, 0));
    }

    private static void promise04Price() {
        dueRefused("price(8, 5)", NO_SUCH, x -> x.price(8, 5));
        dueRefused("price(0, 0)", BAD_VALUE, x -> x.price(0, 0));
        dueRefused("price(0, 1000)", BAD_VALUE, x -> x.price(0, 1000));
    }

    private static void promise05Guard() {
        dueRefused("guard(14, 0)", NO_SUCH, x -> x.guard(14, 0));
        dueRefused("guard(0, 41)", BAD_VALUE, x -> x.guard(0, 41));
        dueRefused("guard(0, 7)", NOT_POSSIBLE, x -> x.guard(0, 7));
        dueRefused("guard(1, 3)", NOT_POSSIBLE, x -> x.guard(1, 3));
    }

    private static void promise06Toll() {
        dueRefused("toll(14, 0)", NO_SUCH, x -> x.toll(14, 0));
        dueRefused("toll(0, 201)", BAD_VALUE, x -> x.toll(0, 201));
        dueRefused("toll(0, -1)", BAD_VALUE, x -> x.toll(0, -1));
    }

    private static void promise08Cart() {
        dueRefused("cart(8, 5)", NO_SUCH, x -> x.cart(8, 5));
        dueRefused("cart(0, 100000)", BAD_VALUE, x -> x.cart(0, 100000));
        dueRefused("cart(0, 5)", TOO_MANY, x -> x.cart(0, 5));
    }

    private static void promise09Buy() {
        dueRefused("buy(6, 1)", NO_SUCH, x -> x.buy(6, 1));
        dueRefused("buy(0, 0)", BAD_VALUE, x -> x.buy(0, 0));
        dueRefused("buy(0, 100)", BAD_VALUE, x -> x.buy(0, 100));
        dueRefused("buy(0, 1)", NOT_POSSIBLE, x -> x.buy(0, 1));
        dueRefused("buy(1, 1)", TOO_MANY, x -> x.buy(1, 1));
    }

    private static void promise10Sell() {
        dueRefused("sell(-1, 1)", NO_SUCH, x -> x.sell(-1, 1));
        dueRefused("sell(0, 0)", BAD_VALUE, x -> x.sell(0, 0));
        dueRefused("sell(0, 100)", BAD_VALUE, x -> x.sell(0, 100));
        dueRefused("sell(0, 6)", NOT_POSSIBLE, x -> x.sell(0, 6));
        dueRefused("sell(2, 1)", TOO_MANY, x -> x.sell(2, 1));
    }

    private static void promise11Go() {
        dueRefused("go(6, 0, 1)", NO_SUCH, x -> x.go(6, 0, 1));
        dueRefused("go(0, 14, 1)", NO_SUCH, x -> x.go(0, 14, 1));
        dueRefused("go(0, 0, 2)", BAD_VALUE, x -> x.go(0, 0, 2));
        dueRefused("go(0, 0, -1)", BAD_VALUE, x -> x.go(0, 0, -1));
        dueRefused("go(0, 1, 1), a road elsewhere", NOT_POSSIBLE, x -> x.go(0, 1, 1));
        dueRefused("go(0, 1, 0), a road elsewhere", NOT_POSSIBLE, x -> x.go(0, 1, 0));
        dueRefused("go(0, 0, 0), too few coins", NOT_POSSIBLE, x -> x.go(0, 0, 0));
    }

    private static void promise13OfTown() {
        dueRefused("ofTown(8, 0)", NO_SUCH, x -> x.ofTown(8, 0));
        dueRefused("ofTown(0, 4)", BAD_VALUE, x -> x.ofTown(0, 4));
    }

    private static void promise14OfRoad() {
        dueRefused("ofRoad(14, 0)", NO_SUCH, x -> x.ofRoad(14, 0));
        dueRefused("ofRoad(0, 9)", BAD_VALUE, x -> x.ofRoad(0, 9));
    }

    private static void promise15OfCart() {
        dueRefused("ofCart(6, 0)", NO_SUCH, x -> x.ofCart(6, 0));
        dueRefused("ofCart(0, 8)", BAD_VALUE, x -> x.ofCart(0, 8));
    }

    private static void promise16Worth() {
        dueRefused("worth(8, 0, 0)", NO_SUCH, x -> x.worth(8, 0, 0));
        dueRefused("worth(0, 5, 0)", BAD_VALUE, x -> x.worth(0, 5, 0));
        dueRefused("worth(0, 0, 2)", BAD_VALUE, x -> x.worth(0, 0, 2));
    }

    private static void promise17Sign() {
        dueRefused("sign(6)", NO_SUCH, x -> x.sign(6));
        dueRefused("sign(-1)", NO_SUCH, x -> x.sign(-1));
    }

    private static void promise18Count() {
        dueRefused("count(18)", BAD_VALUE, x -> x.count(18));
        dueRefused("count(-1)", BAD_VALUE, x -> x.count(-1));
    }

    private static void promise19Step() {
        dueRefused("step(8, 0)", NO_SUCH, x -> x.step(8, 0));
        dueRefused("step(0, 2)", BAD_VALUE, x -> x.step(0, 2));
    }

    private static void promise20FewestGuards() {
        dueRefused("fewestGuards(14)", NO_SUCH, x -> x.fewestGuards(14));
    }

    private static void promise21MostPrice() {
        dueRefused("mostPrice(8)", NO_SUCH, x -> x.mostPrice(8));
    }

    private static void promise23WouldHave() {
        dueRefused("wouldHave(6, 0, 0)", NO_SUCH, x -> x.wouldHave(6, 0, 0));
        dueRefused("wouldHave(0, 0, 2)", BAD_VALUE, x -> x.wouldHave(0, 0, 2));
        dueRefused("wouldHave(0, 1, 1)", NOT_POSSIBLE, x -> x.wouldHave(0, 1, 1));
    }

    private static void promise24Put() {
        dueRefused("put(0)", BAD_VALUE, x -> x.put(0));
        dueRefused("put('a', 32)", BAD_VALUE, x -> x.put('a' << 8 | 32));
        dueRefused("put(127, 'a')", BAD_VALUE, x -> x.put(127 << 8 | 'a'));
        dueRefused("put('a', 0, 'b')", BAD_VALUE, x -> x.put(0x610062L));
        SaltPrices x = fullWithFullPad();
        due("put('a') of 80", x.put('a'), TOO_MANY);
        dueText("a full pad", Everything.of(x), Everything.of(fullWithFullPad()));
    }

    private static void promise27CarryOut() {
        dueRefused("carryOut()", BAD_TEXT, x -> x.carryOut());
        SaltPrices x = fullWithFullPad();
        due("carryOut() of 80", x.carryOut(), BAD_TEXT);
        dueText("a full pad", Everything.of(x), Everything.of(fullWithFullPad()));
    }

    private static void promise28Undo() {
        SaltPrices x = new SaltPrices();
        x.save(0);
        put(x, "abc");
        due("undo()", x.undo(), NOT_POSSIBLE);
        SaltPrices other = new SaltPrices();
        put(other, "abc");
        dueText("all", Everything.of(x), Everything.of(other));
        due("restore(0)", x.restore(0), 0);
    }

    private static void promise29Save() {
        dueRefused("save(2)", BAD_VALUE, x -> x.save(2));
        dueRefused("save(-1)", BAD_VALUE, x -> x.save(-1));
    }

    private static void promise30Restore() {
        dueRefused("restore(2)", BAD_VALUE, x -> x.restore(2));
        dueRefused("restore(-1)", BAD_VALUE, x -> x.restore(-1));
        dueRefused("restore(1)", NOT_POSSIBLE, x -> x.restore(1));
    }
}
