import java.util.Random;

/** Long runs of calls, the same in every run of the test, on the class and on the model: each answer is compared. */
public final class ModelTest {
    private static final int RUNS = 600;
    /** What an object is used for at most. */
    private static final int CALLS = 512;
    /** The calls of one change at most: to wipe the pad, to put 80 characters, to find their fault, to carry them out. */
    private static final int CALLS_AT_ONCE = 13;
    /** The calls by which all is looked at, at most: of 14 roads and 6 carts. */
    private static final int CALLS_TO_LOOK_AT_ALL = 300;
    private static final int FAULT_TEXTS = 20000;
    private static final Check check = new Check();

    private final Random random;
    private final SaltPrices real = new SaltPrices();
    private final Model model = new Model();
    private final boolean lowPrices;
    private int calls = 0;

    private ModelTest(long seed) {
        random = new Random(seed);
        lowPrices = random.nextInt(3) == 0;
    }

    public static void main(String[] args) {
        for (int run = 0; run < RUNS && check.wrongs() == 0; run++) {
            check.begin("run " + run);
            new ModelTest(run).run();
        }
        check.begin("faults");
        Random random = new Random(77);
        for (int i = 0; i < FAULT_TEXTS && check.wrongs() == 0; i++) {
            compareFaults(random);
        }
        check.end();
    }

    /** Every other run looks at all at its end. */
    private void run() {
        boolean looksAtAll = random.nextBoolean();
        int most = CALLS - CALLS_AT_ONCE - (looksAtAll ? CALLS_TO_LOOK_AT_ALL : 0);
        for (int i = 0; i < 20; i++) {
            change(i % 2 == 0 ? 1 : 6 + random.nextInt(3));
        }
        while (calls <= most) {
            if (random.nextInt(5) < 3) {
                change(random.nextInt(18));
            } else {
                look(random.nextInt(11));
            }
        }
        if (looksAtAll) {
            lookAtAll();
        }
        check.due("calls are at most " + CALLS, calls <= CALLS ? 1 : 0, 1);
    }

    /** Mostly within the bounds, sometimes at or just behind them, seldom far away. */
    private int pick(int least, int most) {
        int kind = random.nextInt(40);
        if (kind == 0) {
            return least - 1;
        }
        if (kind == 1) {
            return most + 1;
        }
        if (kind == 2) {
            return random.nextInt();
        }
        if (kind < 6) {
            return random.nextBoolean() ? least : most;
        }
        return least + random.nextInt(most - least + 1);
    }

    private int town() {
        return pick(0, 7);
    }

    private int roadNumber() {
        return pick(0, Math.max(0, model.count(0) - 1));
    }

    private int cartNumber() {
        return pick(0, Math.max(0, model.count(1) - 1));
    }

    private int somePrice() {
        return lowPrices ? pick(1, 12) : pick(1, 999);
    }

    private int someSacks() {
        return random.nextInt(3) == 0 ? pick(1, 99) : pick(1, 12);
    }

    /** Seldom any road: else one of the town at which the cart is, if there is one. */
    private int roadOf(int cart) {
        int roads = model.ofTown(model.ofCart(cart, 0), 1);
        if (roads <= 0 || random.nextInt(8) == 0) {
            return roadNumber();
        }
        int road = random.nextInt(14);
        while ((roads >> road & 1) == 0) {
            road = (road + 1) % 14;
        }
        return road;
    }

    private void change(int kind) {
        int a;
        int b;
        int c;
        switch (kind) {
            case 0:
                a = pick(0, 3);
                b = pick(new int[] {0, 1, 1, 0}[a & 3], new int[] {500, 30, 4, 40}[a & 3]);
                due("set", a, b, 0, real.set(a, b), model.set(a, b));
                break;
            case 1:
                a = town();
                b = town();
                c = random.nextBoolean() ? pick(0, 200) : pick(0, 30);
                due("road", a, b, c, real.road(a, b, c), model.road(a, b, c));
                break;
            case 2:
                a = town();
                b = somePrice();
                due("price", a, b, 0, real.price(a, b), model.price(a, b));
                break;
            case 3:
                a = roadNumber();
                b = random.nextBoolean() ? pick(0, 40) : pick(0, 9);
                due("guard", a, b, 0, real.guard(a, b), model.guard(a, b));
                break;
            case 4:
                a = roadNumber();
                b = random.nextBoolean() ? pick(0, 200) : pick(0, 30);
                due("toll", a, b, 0, real.toll(a, b), model.toll(a, b));
                break;
            case 5:
                due("ifHonest", 0, 0, 0, real.ifHonest(), model.ifHonest());
                if (random.nextInt(3) == 0) {
                    due("makeHonest", 0, 0, 0, real.makeHonest(), model.makeHonest());
                }
                break;
            case 6:
                a = town();
                b = random.nextBoolean() ? pick(0, 99999) : pick(0, 2000);
                due("cart", a, b, 0, real.cart(a, b), model.cart(a, b));
                break;
            case 7:
            case 8:
                a = cartNumber();
                b = someSacks();
                due("buy", a, b, 0, real.buy(a, b), model.buy(a, b));
                break;
            case 9:
                a = cartNumber();
                b = someSacks();
                due("sell", a, b, 0, real.sell(a, b), model.sell(a, b));
                break;
            case 10:
            case 11:
            case 12:
                a = cartNumber();
                b = roadOf(a);
                c = pick(0, 1);
                due("go", a, b, c, real.go(a, b, c), model.go(a, b, c));
                break;
            default:
                textOrTime(kind);
                break;
        }
    }

    private void textOrTime(int kind) {
        switch (kind) {
            case 13:
                if (random.nextInt(3) == 0) {
                    due("write", 0, 0, 0, real.write(), model.write());
                } else {
                    putAny();
                }
                break;
            case 14:
            case 15:
                putOrders();
                due("fault", 0, 0, 0, real.fault(), model.fault());
                due("carryOut", 0, 0, 0, real.carryOut(), model.carryOut());
                break;
            case 16:
                due("undo", 0, 0, 0, real.undo(), model.undo());
                break;
            default:
                int slot = pick(0, 1);
                if (random.nextBoolean()) {
                    due("save", slot, 0, 0, real.save(slot), model.save(slot));
                } else {
                    due("restore", slot, 0, 0, real.restore(slot), model.restore(slot));
                }
                break;
        }
    }

    private void putAny() {
        long characters = random.nextInt(4) == 0 ? random.nextLong() : 0;
        for (int i = random.nextInt(9); i > 0; i--) {
            characters = characters << 8 | (random.nextInt(30) == 0 ? random.nextInt(256) : 33 + random.nextInt(94));
        }
        duePut(characters);
    }

    private void duePut(long characters) {
        calls++;
        check.due("put(" + characters + ")", real.put(characters), model.put(characters));
    }

    private void putOrders() {
        if (random.nextInt(4) > 0) {
            due("wipe", 0, 0, 0, real.wipe(), model.wipe());
        }
        String text = orders(random);
        for (int i = 0; i < text.length(); i += 8) {
            duePut(Check.packed(text.substring(i, Math.min(text.length(), i + 8))));
        }
    }

    private static String orders(Random random) {
        StringBuilder text = new StringBuilder();
        int most = 1 + random.nextInt(12);
        for (int i = 0; i < most && text.length() < 66; i++) {
            text.append(i == 0 ? "" : ";").append(order(random));
        }
        return text.toString();
    }

    private static String order(Random random) {
        int digit = random.nextInt(20) == 0 ? random.nextInt(10) : random.nextInt(8);
        int cart = random.nextInt(20) == 0 ? random.nextInt(10) : random.nextInt(4);
        switch (random.nextInt(8)) {
            case 0:
                return "r" + digit + random.nextInt(8) + "*" + random.nextInt(210);
            case 1:
                return "p" + digit + "=" + random.nextInt(1010);
            case 2:
                return "g" + random.nextInt(8) + ":" + random.nextInt(8);
            case 3:
                return "c" + digit + "*" + random.nextInt(10000);
            case 4:
                return "b" + cart + "*" + (1 + random.nextInt(20));
            case 5:
                return "s" + cart + "*" + (1 + random.nextInt(9));
            case 6:
                return "o" + cart + ":" + random.nextInt(12);
            default:
                return "h" + cart + ":" + random.nextInt(12);
        }
    }

    private void look(int kind) {
        int a = town();
        int road = roadNumber();
        int cart = cartNumber();
        int b;
        switch (kind) {
            case 0:
                b = pick(0, 3);
                due("ofTown", a, b, 0, real.ofTown(a, b), model.ofTown(a, b));
                break;
            case 1:
                b = pick(0, 8);
                due("ofRoad", road, b, 0, real.ofRoad(road, b), model.ofRoad(road, b));
                break;
            case 2:
                b = pick(0, 7);
                due("ofCart", cart, b, 0, real.ofCart(cart, b), model.ofCart(cart, b));
                break;
            case 3:
                b = pick(0, 4);
                int open = pick(0, 1);
                due("worth", a, b, open, real.worth(a, b, open), model.worth(a, b, open));
                break;
            case 4:
                b = pick(0, 79);
                due("sign", b, 0, 0, real.sign(b), model.sign(b));
                break;
            case 5:
                b = pick(0, 17);
                due("count", b, 0, 0, real.count(b), model.count(b));
                break;
            case 6:
                b = pick(0, 1);
                due("step", a, b, 0, real.step(a, b), model.step(a, b));
                break;
            case 7:
                due("fewestGuards", road, 0, 0, real.fewestGuards(road), model.fewestGuards(road));
                break;
            case 8:
                due("mostPrice", a, 0, 0, real.mostPrice(a), model.mostPrice(a));
                break;
            case 9:
                b = roadOf(cart);
                int found = pick(0, 1);
                due("wouldHave", cart, b, found, real.wouldHave(cart, b, found), model.wouldHave(cart, b, found));
                break;
            default:
                due("fault", 0, 0, 0, real.fault(), model.fault());
                break;
        }
    }

    private void lookAtAll() {
        for (int town = -1; town <= 8; town++) {
            for (int what = 0; what < 4; what++) {
                due("ofTown", town, what, 0, real.ofTown(town, what), model.ofTown(town, what));
            }
            due("step", town, 0, 0, real.step(town, 0), model.step(town, 0));
            due("step", town, 1, 0, real.step(town, 1), model.step(town, 1));
            due("mostPrice", town, 0, 0, real.mostPrice(town), model.mostPrice(town));
        }
        for (int road = 0; road <= model.count(0); road++) {
            for (int what = 0; what < 9; what++) {
                due("ofRoad", road, what, 0, real.ofRoad(road, what), model.ofRoad(road, what));
            }
            due("fewestGuards", road, 0, 0, real.fewestGuards(road), model.fewestGuards(road));
        }
        for (int cart = 0; cart <= model.count(1); cart++) {
            for (int what = 0; what < 8; what++) {
                due("ofCart", cart, what, 0, real.ofCart(cart, what), model.ofCart(cart, what));
            }
        }
        for (int what = 0; what < 18; what++) {
            due("count", what, 0, 0, real.count(what), model.count(what));
        }
    }

    private void due(String name, int a, int b, int c, long got, long want) {
        calls++;
        check.due(name + "(" + a + ", " + b + ", " + c + ")", got, want);
    }

    /** Orders with one character changed, taken out or put in. */
    private static void compareFaults(Random random) {
        StringBuilder text = new StringBuilder(orders(random));
        String signs = "0123456789rpgcbsoh*=:;x";
        char sign = signs.charAt(random.nextInt(signs.length()));
        int place = random.nextInt(text.length());
        switch (random.nextInt(4)) {
            case 0:
                text.setCharAt(place, sign);
                break;
            case 1:
                text.insert(place, sign);
                break;
            case 2:
                text.deleteCharAt(place);
                break;
            default:
                text.setLength(place);
                break;
        }
        SaltPrices real = new SaltPrices();
        Check.putText(real, text.toString());
        check.due("fault() of " + text, real.fault(), Model.faultOf(text.toString()));
    }
}
