/** Promises 8 to 11 at their edges: carts, buying, selling, going over roads. */
public final class CartEdgesTest extends Edges {
    public static void main(String[] args) throws Exception {
        Sentences.run(CartEdgesTest.class);
    }

    /** Cart 0 in town 0 with 5 sacks and so many coins; road 0 goes from town 0 to town 1, road 1 on to town 2. */
    private static SaltPrices withFiveSacks(int coins, int toll) {
        SaltPrices x = new SaltPrices();
        x.road(0, 1, toll);
        x.road(1, 2, 0);
        x.cart(0, coins + 500);
        x.buy(0, 5);
        return x;
    }

    // ---- promise 8

    /** "NO_SUCH if there is no such town" */
    private static void promise08NoSuchTown() {
        SaltPrices x = new SaltPrices();
        for (int town : new int[] {-1, 8, 256, MIN, MAX}) {
            due("cart(" + town + ", 0)", x.cart(town, 0), NO_SUCH);
        }
        due("count(1)", x.count(1), 0);
        due("count(17)", x.count(17), 0);
    }

    /** Towns are 0 to 7. */
    private static void promise08FirstAndLastTown() {
        SaltPrices x = new SaltPrices();
        due("cart(0, 0)", x.cart(0, 0), 0);
        due("cart(7, 0)", x.cart(7, 0), 1);
        due("ofCart(0, 0)", x.ofCart(0, 0), 0);
        due("ofCart(1, 0)", x.ofCart(1, 0), 7);
    }

    /** "coins: 0 to 99999", else BAD_VALUE. */
    private static void promise08Coins() {
        SaltPrices x = new SaltPrices();
        for (int coins : new int[] {-1, 100000, MIN, MAX}) {
            due("cart(0, " + coins + ")", x.cart(0, coins), BAD_VALUE);
        }
        due("count(10)", x.count(10), 0);
        due("cart(0, 0)", x.cart(0, 0), 0);
        due("cart(0, 99999)", x.cart(0, 99999), 1);
        due("ofCart(0, 1)", x.ofCart(0, 1), 0);
        due("ofCart(1, 1)", x.ofCart(1, 1), 99999);
    }

    /** "TOO_MANY if there are 6 carts": the 6th one still comes, and has the number 5. */
    private static void promise08SixCarts() {
        SaltPrices x = new SaltPrices();
        for (int cart = 0; cart < 6; cart++) {
            due("cart " + cart, x.cart(cart, cart), cart);
        }
        due("cart(0, 7)", x.cart(0, 7), TOO_MANY);
        due("cart(0, 7) again", x.cart(0, 7), TOO_MANY);
        due("count(1)", x.count(1), 6);
        due("count(10)", x.count(10), 15);
        due("ofCart(6, 0)", x.ofCart(6, 0), NO_SUCH);
        x.undo();
        due("cart(7, 9) in the free place", x.cart(7, 9), 5);
        due("count(10)", x.count(10), 19);
    }

    /** NO_SUCH is told ahead of BAD_VALUE, and both ahead of TOO_MANY. */
    private static void promise08OrderOfErrors() {
        SaltPrices x = new SaltPrices();
        due("cart(8, -1)", x.cart(8, -1), NO_SUCH);
        due("cart(-1, 100000)", x.cart(-1, 100000), NO_SUCH);
        for (int cart = 0; cart < 6; cart++) {
            x.cart(0, 0);
        }
        due("cart(8, 0) of 6", x.cart(8, 0), NO_SUCH);
        due("cart(0, -1) of 6", x.cart(0, -1), BAD_VALUE);
        due("cart(0, 100000) of 6", x.cart(0, 100000), BAD_VALUE);
    }

    /** "A cart comes, without sacks", and it has done nothing so far, also where a cart that had is there no more. */
    private static void promise08NewCartIsEmpty() {
        SaltPrices x = new SaltPrices();
        x.save(0);
        x.road(0, 1, 10);
        x.guard(0, 9);
        x.cart(0, 1000);
        x.buy(0, 5);
        x.go(0, 0, 0);
        x.sell(0, 1);
        x.go(0, 0, 1);
        due("lost", x.ofCart(0, 7), 4);
        x.buy(0, 1);
        due("restore(0)", x.restore(0), 0);
        due("cart(3, 8)", x.cart(3, 8), 0);
        int[] empty = {3, 8, 0, 0, 0, 0, 0, 0};
        for (int what = 0; what < empty.length; what++) {
            due("ofCart(0, " + what + ")", x.ofCart(0, what), empty[what]);
        }
        due("count(3)", x.count(3), 0);
    }

    // ---- promise 9

    /** "NO_SUCH if there is no such cart" */
    private static void promise09NoSuchCart() {
        SaltPrices x = new SaltPrices();
        due("buy(0, 1) without carts", x.buy(0, 1), NO_SUCH);
        x.cart(0, 1000);
        for (int cart : new int[] {-1, 1, 5, 6, MIN, MAX}) {
            due("buy(" + cart + ", 1)", x.buy(cart, 1), NO_SUCH);
        }
        due("count(4)", x.count(4), 0);
    }

    /** "sacks: 1 to 99", else BAD_VALUE. */
    private static void promise09OutOfRange() {
        SaltPrices x = new SaltPrices();
        x.cart(0, 99999);
        x.price(0, 1);
        for (int sacks : new int[] {0, -1, 100, MIN, MAX}) {
            due("buy(0, " + sacks + ")", x.buy(0, sacks), BAD_VALUE);
        }
        due("count(4)", x.count(4), 0);
        due("buy(0, 1)", x.buy(0, 1), 99998);
    }

    /** Coins for exactly so many sacks are enough; "Returns the coins that it has then", which may be 0. */
    private static void promise09JustEnoughCoins() {
        SaltPrices x = new SaltPrices();
        x.cart(0, 300);
        due("buy(0, 3)", x.buy(0, 3), 0);
        due("ofCart(0, 2)", x.ofCart(0, 2), 3);
        due("ofCart(0, 3)", x.ofCart(0, 3), 300);
        due("buy(0, 1) without coins", x.buy(0, 1), NOT_POSSIBLE);
    }

    /** "NOT_POSSIBLE if it has too few coins": one coin is too few. */
    private static void promise09TooFewCoins() {
        SaltPrices x = new SaltPrices();
        x.cart(0, 299);
        due("buy(0, 3)", x.buy(0, 3), NOT_POSSIBLE);
        due("ofCart(0, 1)", x.ofCart(0, 1), 299);
        due("ofCart(0, 2)", x.ofCart(0, 2), 0);
        due("ofCart(0, 3)", x.ofCart(0, 3), 0);
        due("count(4)", x.count(4), 0);
        due("buy(0, 2)", x.buy(0, 2), 99);
    }

    /** "TOO_MANY if it would have more than 99 sacks": 99 are not more. */
    private static void promise09NinetyNineSacks() {
        SaltPrices x = new SaltPrices();
        x.cart(0, 99999);
        due("buy(0, 50)", x.buy(0, 50), 94999);
        due("buy(0, 50) again", x.buy(0, 50), TOO_MANY);
        due("ofCart(0, 1)", x.ofCart(0, 1), 94999);
        due("ofCart(0, 2)", x.ofCart(0, 2), 50);
        due("buy(0, 49)", x.buy(0, 49), 90099);
        due("ofCart(0, 2)", x.ofCart(0, 2), 99);
        due("buy(0, 1)", x.buy(0, 1), TOO_MANY);
        due("count(4)", x.count(4), 99);
    }

    /** 99 sacks at once for 999 coins each. */
    private static void promise09TheDearestSacks() {
        SaltPrices x = new SaltPrices();
        x.price(0, 999);
        x.cart(0, 98900);
        x.cart(0, 98901);
        due("buy(0, 99)", x.buy(0, 99), NOT_POSSIBLE);
        due("buy(1, 99)", x.buy(1, 99), 0);
        due("ofCart(1, 3)", x.ofCart(1, 3), 98901);
    }

    /** NO_SUCH, BAD_VALUE, NOT_POSSIBLE, TOO_MANY is the order. */
    private static void promise09OrderOfErrors() {
        SaltPrices x = new SaltPrices();
        x.price(0, 1);
        x.cart(0, 99);
        due("buy(1, 0)", x.buy(1, 0), NO_SUCH);
        due("buy(-1, 100)", x.buy(-1, 100), NO_SUCH);
        x.buy(0, 99);
        due("buy(0, 100) without coins and place", x.buy(0, 100), BAD_VALUE);
        due("buy(0, 0) without coins and place", x.buy(0, 0), BAD_VALUE);
        due("buy(0, 1) without coins and place", x.buy(0, 1), NOT_POSSIBLE);
    }

    /** "It buys and sells sacks at the price of its town", where it is now. */
    private static void promise09AtThePriceOfItsTown() {
        SaltPrices x = withFiveSacks(1000, 0);
        x.price(1, 7);
        x.go(0, 0, 0);
        due("buy(0, 2)", x.buy(0, 2), 986);
    }

    // ---- promise 10

    /** "NO_SUCH if there is no such cart" */
    private static void promise10NoSuchCart() {
        SaltPrices x = new SaltPrices();
        due("sell(0, 1) without carts", x.sell(0, 1), NO_SUCH);
        x.cart(0, 1000);
        x.buy(0, 9);
        for (int cart : new int[] {-1, 1, 5, 6, MIN, MAX}) {
            due("sell(" + cart + ", 1)", x.sell(cart, 1), NO_SUCH);
        }
        due("count(5)", x.count(5), 0);
    }

    /** "sacks: 1 to 99", else BAD_VALUE. */
    private static void promise10OutOfRange() {
        SaltPrices x = new SaltPrices();
        x.price(0, 1);
        x.cart(0, 200);
        x.buy(0, 99);
        for (int sacks : new int[] {0, -1, 100, MIN, MAX}) {
            due("sell(0, " + sacks + ")", x.sell(0, sacks), BAD_VALUE);
        }
        due("count(5)", x.count(5), 0);
        due("sell(0, 99)", x.sell(0, 99), 200);
        due("ofCart(0, 2)", x.ofCart(0, 2), 0);
    }

    /** "NOT_POSSIBLE if it has too few sacks": one sack is too few, and none are. */
    private static void promise10TooFewSacks() {
        SaltPrices x = new SaltPrices();
        x.cart(0, 1000);
        due("sell(0, 1) without sacks", x.sell(0, 1), NOT_POSSIBLE);
        x.buy(0, 9);
        due("sell(0, 10)", x.sell(0, 10), NOT_POSSIBLE);
        due("ofCart(0, 1)", x.ofCart(0, 1), 100);
        due("ofCart(0, 2)", x.ofCart(0, 2), 9);
        due("ofCart(0, 4)", x.ofCart(0, 4), 0);
        due("count(5)", x.count(5), 0);
        due("sell(0, 9)", x.sell(0, 9), 1000);
        due("ofCart(0, 2)", x.ofCart(0, 2), 0);
    }

    /** "TOO_MANY if it would have more than 99999 coins": 99999 are not more. */
    private static void promise10TooManyCoins() {
        SaltPrices x = new SaltPrices();
        x.cart(0, 99999);
        x.buy(0, 2);
        x.price(0, 201);
        due("sell(0, 1)", x.sell(0, 1), TOO_MANY);
        due("ofCart(0, 1)", x.ofCart(0, 1), 99799);
        due("ofCart(0, 2)", x.ofCart(0, 2), 2);
        due("ofCart(0, 4)", x.ofCart(0, 4), 0);
        due("count(5)", x.count(5), 0);
        x.price(0, 200);
        due("sell(0, 1) for 200", x.sell(0, 1), 99999);
        due("ofCart(0, 4)", x.ofCart(0, 4), 200);
        x.price(0, 1);
        due("sell(0, 1) for 1", x.sell(0, 1), TOO_MANY);
    }

    /** NO_SUCH, BAD_VALUE, NOT_POSSIBLE, TOO_MANY is the order. */
    private static void promise10OrderOfErrors() {
        SaltPrices x = new SaltPrices();
        x.cart(0, 99999);
        due("sell(1, 0)", x.sell(1, 0), NO_SUCH);
        due("sell(-1, 100)", x.sell(-1, 100), NO_SUCH);
        due("sell(0, 0) without sacks", x.sell(0, 0), BAD_VALUE);
        due("sell(0, 100) without sacks", x.sell(0, 100), BAD_VALUE);
        x.buy(0, 1);
        x.price(0, 999);
        due("sell(0, 2) without place for the coins", x.sell(0, 2), NOT_POSSIBLE);
        due("sell(0, 1) without place for the coins", x.sell(0, 1), TOO_MANY);
    }

    // ---- promise 11

    /** "NO_SUCH if there is no such cart or road" */
    private static void promise11NoSuchCartOrRoad() {
        SaltPrices x = withRoads(1);
        due("go(0, 0, 0) without carts", x.go(0, 0, 0), NO_SUCH);
        x.cart(0, 0);
        for (int number : new int[] {-1, 1, 6, 14, MIN, MAX}) {
            due("go(" + number + ", 0, 0)", x.go(number, 0, 0), NO_SUCH);
            due("go(0, " + number + ", 0)", x.go(0, number, 0), NO_SUCH);
            due("go(0, " + number + ", 1)", x.go(0, number, 1), NO_SUCH);
        }
        due("ofCart(0, 0)", x.ofCart(0, 0), 0);
    }

    /** "BAD_VALUE if hidden is neither" */
    private static void promise11HiddenIsNeither() {
        SaltPrices x = withFiveSacks(1000, 10);
        for (int hidden : new int[] {-1, 2, MIN, MAX}) {
            due("go(0, 0, " + hidden + ")", x.go(0, 0, hidden), BAD_VALUE);
        }
        due("ofCart(0, 0)", x.ofCart(0, 0), 0);
        due("ofRoad(0, 7)", x.ofRoad(0, 7), 0);
        due("ofRoad(0, 8)", x.ofRoad(0, 8), 0);
    }

    /** "NOT_POSSIBLE if the road is not at its town", openly or hidden; nothing is drawn, nobody went over it. */
    private static void promise11RoadElsewhere() {
        SaltPrices x = withFiveSacks(1000, 0);
        due("go(0, 1, 0)", x.go(0, 1, 0), NOT_POSSIBLE);
        due("go(0, 1, 1)", x.go(0, 1, 1), NOT_POSSIBLE);
        due("ofCart(0, 0)", x.ofCart(0, 0), 0);
        due("count(11)", x.count(11), 1);
        due("ofRoad(1, 7)", x.ofRoad(1, 7), 0);
        due("ofRoad(1, 8)", x.ofRoad(1, 8), 0);
    }

    /** "NOT_POSSIBLE if it goes openly and has too few coins for the toll": one coin is too few for 5 sacks. */
    private static void promise11TooFewCoinsForTheToll() {
        SaltPrices x = withFiveSacks(49, 10);
        due("go(0, 0, 0)", x.go(0, 0, 0), NOT_POSSIBLE);
        due("ofCart(0, 0)", x.ofCart(0, 0), 0);
        due("ofCart(0, 1)", x.ofCart(0, 1), 49);
        due("ofCart(0, 2)", x.ofCart(0, 2), 5);
        due("ofCart(0, 5)", x.ofCart(0, 5), 0);
        due("ofRoad(0, 7)", x.ofRoad(0, 7), 0);
    }

    /** Coins for exactly the toll of each sack are enough. */
    private static void promise11JustEnoughForTheToll() {
        SaltPrices x = withFiveSacks(50, 10);
        due("go(0, 0, 0)", x.go(0, 0, 0), 0);
        due("ofCart(0, 0)", x.ofCart(0, 0), 1);
        due("ofCart(0, 1)", x.ofCart(0, 1), 0);
        due("ofCart(0, 2)", x.ofCart(0, 2), 5);
        due("ofCart(0, 5)", x.ofCart(0, 5), 50);
    }

    /** 99 sacks for a toll of 200 each. */
    private static void promise11TheDearestToll() {
        SaltPrices x = new SaltPrices();
        x.road(0, 1, 200);
        x.price(0, 1);
        x.cart(0, 99 + 19800);
        x.buy(0, 99);
        due("go(0, 0, 0)", x.go(0, 0, 0), 0);
        due("ofCart(0, 1)", x.ofCart(0, 1), 0);
        due("ofCart(0, 5)", x.ofCart(0, 5), 19800);
    }

    /** A toll of 0 is paid without coins. */
    private static void promise11NoTollWithoutCoins() {
        SaltPrices x = withFiveSacks(0, 0);
        due("go(0, 0, 0)", x.go(0, 0, 0), 0);
        due("ofCart(0, 0)", x.ofCart(0, 0), 1);
    }

    /** "Without sacks nothing is paid": also without coins a cart goes openly. */
    private static void promise11OpenlyWithoutSacks() {
        SaltPrices x = new SaltPrices();
        x.road(0, 1, 200);
        x.cart(0, 0);
        x.cart(0, 300);
        due("go(0, 0, 0)", x.go(0, 0, 0), 0);
        due("go(1, 0, 0)", x.go(1, 0, 0), 0);
        due("ofCart(0, 0)", x.ofCart(0, 0), 1);
        due("ofCart(1, 1)", x.ofCart(1, 1), 300);
        due("ofCart(1, 5)", x.ofCart(1, 5), 0);
        due("ofRoad(0, 7)", x.ofRoad(0, 7), 2);
    }

    /** "Without sacks nothing is drawn", though the road has guards; it is a hidden trip all the same. */
    private static void promise11HiddenWithoutSacks() {
        SaltPrices x = withRoads(1);
        x.guard(0, 9);
        x.cart(0, 300);
        due("go(0, 0, 1)", x.go(0, 0, 1), 0);
        due("count(11)", x.count(11), 1);
        due("ofCart(0, 0)", x.ofCart(0, 0), 1);
        due("ofCart(0, 1)", x.ofCart(0, 1), 300);
        due("ofCart(0, 6)", x.ofCart(0, 6), 0);
        due("ofRoad(0, 8)", x.ofRoad(0, 8), 1);
        due("ofRoad(0, 7)", x.ofRoad(0, 7), 0);
    }

    /** Nothing is drawn by sacks that go openly, though the road has guards. */
    private static void promise11NothingDrawnOpenly() {
        SaltPrices x = withFiveSacks(0, 0);
        x.guard(0, 9);
        due("go(0, 0, 0)", x.go(0, 0, 0), 0);
        due("count(11)", x.count(11), 1);
        due("ofCart(0, 2)", x.ofCart(0, 2), 5);
    }

    /** Hidden sacks pay no toll, so too few coins for it do not matter. */
    private static void promise11NoTollHidden() {
        SaltPrices x = withFiveSacks(3, 200);
        due("go(0, 0, 1)", x.go(0, 0, 1), 0);
        due("ofCart(0, 0)", x.ofCart(0, 0), 1);
        due("ofCart(0, 1)", x.ofCart(0, 1), 3);
        due("ofCart(0, 2)", x.ofCart(0, 2), 5);
        due("ofCart(0, 5)", x.ofCart(0, 5), 0);
    }

    /** "x becomes (75 * x + 74) left over by 65537": it comes around by the third number first. */
    private static void promise11XComesAround() {
        SaltPrices x = withFiveSacks(0, 0);
        int[] numbers = {149, 11249, 57305, 38044, 35283, 24819, 26463, 18689, 25472, 9901};
        for (int number : numbers) {
            x.go(0, 0, 1);
            due("count(11)", x.count(11), number);
        }
        goHidden(x, 0, 0, 179);
        due("the greatest of 400 numbers, the 189th", x.count(11), 65406);
    }

    /** "if it is less than the chance": the first number is 149 / 4 = 37, which is not less than 37. */
    private static void promise11AsGreatAsTheChance() {
        SaltPrices x = withFiveSacks(100, 0);
        x.set(EYE, 1);
        x.set(POOL, 40);
        x.guard(0, 37);
        due("go(0, 0, 1)", x.go(0, 0, 1), 0);
        due("ofCart(0, 2)", x.ofCart(0, 2), 5);
        due("ofCart(0, 1)", x.ofCart(0, 1), 100);
    }

    /** 37 is less than 38. */
    private static void promise11LessThanTheChance() {
        SaltPrices x = withFiveSacks(100, 0);
        x.set(EYE, 1);
        x.set(POOL, 40);
        x.guard(0, 38);
        due("go(0, 0, 1)", x.go(0, 0, 1), 5);
        due("ofCart(0, 2)", x.ofCart(0, 2), 0);
        due("ofCart(0, 1)", x.ofCart(0, 1), 0);
        due("ofCart(0, 0)", x.ofCart(0, 0), 1);
    }

    /** "the number is x / 4 left over by 100": the second one is 2812, left over 12; the 7th is 6615.75, left over 15. */
    private static void promise11NumberIsLeftOver() {
        int[] draws = {2, 2, 7, 7};
        int[] guards = {12, 13, 15, 16};
        int[] lost = {0, 5, 0, 5};
        for (int i = 0; i < draws.length; i++) {
            SaltPrices x = withFiveSacks(100, 0);
            x.set(EYE, 1);
            x.set(POOL, 40);
            goHidden(x, 0, 0, draws[i] - 1);
            x.guard(0, guards[i]);
            due("number " + draws[i] + " at " + guards[i] + " guards", x.go(0, 0, 1), lost[i]);
        }
    }

    /** Without guards no number is less than the chance: also the 17th one is not, which is 0. */
    private static void promise11NumberNoughtWithoutGuards() {
        SaltPrices x = withFiveSacks(100, 0);
        goHidden(x, 0, 0, 16);
        due("count(11)", x.count(11), 1944);
        due("go(0, 0, 1)", x.go(0, 0, 1), 0);
        due("count(11)", x.count(11), 14800);
        due("ofCart(0, 2)", x.ofCart(0, 2), 5);
    }

    /** The number 0 is less than the least chance there is, 1. */
    private static void promise11NumberNoughtWithOneGuard() {
        SaltPrices x = withFiveSacks(100, 0);
        x.set(EYE, 1);
        goHidden(x, 0, 0, 16);
        x.guard(0, 1);
        due("go(0, 0, 1)", x.go(0, 0, 1), 5);
    }

    /** "90 at most": the 81st number is 90, and is not found by any guards. */
    private static void promise11NumberAtTheGreatestChance() {
        SaltPrices x = withFiveSacks(100, 0);
        x.set(EYE, 30);
        x.set(POOL, 40);
        goHidden(x, 0, 0, 80);
        x.guard(0, 40);
        due("go(0, 0, 1)", x.go(0, 0, 1), 0);
        due("count(11)", x.count(11), 22363);
    }

    /** The 218th number is 89, which is less than 90. */
    private static void promise11NumberBelowTheGreatestChance() {
        SaltPrices x = withFiveSacks(100, 0);
        x.set(EYE, 30);
        x.set(POOL, 40);
        goHidden(x, 0, 0, 217);
        x.guard(0, 3);
        due("go(0, 0, 1)", x.go(0, 0, 1), 5);
        due("count(11)", x.count(11), 61157);
    }

    /** "the cart pays FINE for each": exactly all its coins, and one is left. */
    private static void promise11FineOfExactlyItsCoins() {
        int[] coins = {100, 101};
        for (int had : coins) {
            SaltPrices x = withFiveSacks(had, 0);
            x.guard(0, 9);
            due("go(0, 0, 1)", x.go(0, 0, 1), 5);
            due("ofCart(0, 1)", x.ofCart(0, 1), had - 100);
            due("ofCart(0, 6)", x.ofCart(0, 6), 100);
        }
    }

    /** "or all its coins, if they are less" */
    private static void promise11FineOfAllItsCoins() {
        int[] coins = {99, 1, 0};
        for (int had : coins) {
            SaltPrices x = withFiveSacks(had, 0);
            x.guard(0, 9);
            due("go(0, 0, 1)", x.go(0, 0, 1), 5);
            due("ofCart(0, 1)", x.ofCart(0, 1), 0);
            due("ofCart(0, 6)", x.ofCart(0, 6), had);
            due("ofCart(0, 7)", x.ofCart(0, 7), 5);
        }
    }

    /** A fine of 0 is none, and the sacks are lost all the same. */
    private static void promise11FineOfNought() {
        SaltPrices x = withFiveSacks(100, 0);
        x.guard(0, 9);
        x.set(FINE, 0);
        due("go(0, 0, 1)", x.go(0, 0, 1), 5);
        due("ofCart(0, 1)", x.ofCart(0, 1), 100);
        due("ofCart(0, 6)", x.ofCart(0, 6), 0);
        due("ofCart(0, 2)", x.ofCart(0, 2), 0);
    }

    /** "Returns how many sacks are lost", 99 at most, each for a fine of 500. */
    private static void promise11NinetyNineLost() {
        SaltPrices x = withRoads(1);
        x.price(0, 1);
        x.set(FINE, 500);
        x.guard(0, 9);
        x.cart(0, 49698);
        x.buy(0, 99);
        due("go(0, 0, 1)", x.go(0, 0, 1), 99);
        due("ofCart(0, 1)", x.ofCart(0, 1), 99);
        due("ofCart(0, 6)", x.ofCart(0, 6), 49500);
        due("ofCart(0, 7)", x.ofCart(0, 7), 99);
        due("count(6)", x.count(6), 99);
    }

    /** "In any case it is in the other town then", from either end, found or not, openly or hidden. */
    private static void promise11InTheOtherTown() {
        SaltPrices x = withFiveSacks(500, 1);
        int[] hidden = {0, 0, 1, 1};
        int[] towns = {1, 0, 1, 0};
        for (int trip = 0; trip < hidden.length; trip++) {
            x.go(0, 0, hidden[trip]);
            due("ofCart(0, 0) behind trip " + trip, x.ofCart(0, 0), towns[trip]);
        }
        x.guard(0, 9);
        due("found", x.go(0, 0, 1), 5);
        due("ofCart(0, 0)", x.ofCart(0, 0), 1);
    }

    /** NO_SUCH is told ahead of BAD_VALUE, BAD_VALUE ahead of NOT_POSSIBLE. */
    private static void promise11OrderOfErrors() {
        SaltPrices x = withFiveSacks(0, 10);
        due("go(1, 0, 2)", x.go(1, 0, 2), NO_SUCH);
        due("go(0, 2, 2)", x.go(0, 2, 2), NO_SUCH);
        due("go(1, 2, -1)", x.go(1, 2, -1), NO_SUCH);
        due("go(0, 1, 2)", x.go(0, 1, 2), BAD_VALUE);
        due("go(0, 0, 2)", x.go(0, 0, 2), BAD_VALUE);
    }
}
