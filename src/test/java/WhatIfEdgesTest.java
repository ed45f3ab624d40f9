/** Promises 19 to 23 at their edges: what if; nothing changes. */
public final class WhatIfEdgesTest extends Edges {
    public static void main(String[] args) throws Exception {
        Sentences.run(WhatIfEdgesTest.class);
    }

    private static void dueStep(String when, SaltPrices x, int town, int road, int hidden) {
        due("step(" + town + ", 0) " + when, x.step(town, 0), road);
        due("step(" + town + ", 1) " + when, x.step(town, 1), hidden);
    }

    // ---- promise 19

    /** "NO_SUCH if there is no such town" */
    private static void promise19NoSuchTown() {
        SaltPrices x = new SaltPrices();
        for (int town : new int[] {-1, 8, 256, MIN, MAX}) {
            dueStep("of no town", x, town, NO_SUCH, NO_SUCH);
        }
    }

    /** "BAD_VALUE if what is neither" */
    private static void promise19WhatIsNeither() {
        SaltPrices x = new SaltPrices();
        for (int what : new int[] {-1, 2, MIN, MAX}) {
            due("step(0, " + what + ")", x.step(0, what), BAD_VALUE);
            due("step(7, " + what + ")", x.step(7, what), BAD_VALUE);
        }
    }

    /** NO_SUCH is told ahead of BAD_VALUE, and NONE only if no error applies. */
    private static void promise19OrderOfErrors() {
        SaltPrices x = new SaltPrices();
        due("step(8, 2)", x.step(8, 2), NO_SUCH);
        due("step(-1, -1)", x.step(-1, -1), NO_SUCH);
        due("step(0, 2), where there is no road", x.step(0, 2), BAD_VALUE);
    }

    /** "NONE: it is sold there, or waits": without roads, with a road elsewhere, with a road that brings less. */
    private static void promise19None() {
        SaltPrices x = new SaltPrices();
        dueStep("without roads", x, 0, NONE, 0);
        x.road(1, 2, 0);
        x.price(2, 200);
        dueStep("with a road elsewhere", x, 0, NONE, 0);
        dueStep("at the dear end", x, 2, NONE, 0);
        dueStep("at the cheap end with 3 roads left, it waits", x, 1, NONE, 0);
    }

    /** "none ahead of roads": a road that brings as much as waiting is not told. */
    private static void promise19NoneAheadOfRoads() {
        SaltPrices x = withRoads(1);
        x.set(LEGS, 1);
        dueStep("to a town as dear", x, 0, NONE, 0);
        x.price(1, 101);
        dueStep("to a town dearer by one coin", x, 0, 0, 0);
        x.toll(0, 1);
        x.guard(0, 1);
        dueStep("where the toll takes the coin", x, 0, NONE, 0);
    }

    /** "of a road openly ahead of hidden" */
    private static void promise19OpenlyAheadOfHidden() {
        SaltPrices x = withRoads(1);
        x.set(LEGS, 1);
        x.price(1, 200);
        dueStep("without toll and guards", x, 0, 0, 0);
        x.toll(0, 1);
        dueStep("with a toll of one coin", x, 0, 0, 1);
        // 90 * 200 less 10 * 10 is 17900, as 200 less 21 is 179.
        x.set(FINE, 10);
        x.guard(0, 1);
        x.toll(0, 21);
        dueStep("both bring 17900", x, 0, 0, 0);
        x.toll(0, 22);
        dueStep("hidden it brings more", x, 0, 0, 1);
    }

    /** "roads by numbers": of roads that bring the same, the one with the lowest number. */
    private static void promise19RoadsByNumbers() {
        SaltPrices x = withRoads(23, 1, 10, 1);
        x.set(LEGS, 1);
        x.price(1, 200);
        dueStep("three roads the same", x, 0, 1, 0);
        x.toll(1, 1);
        dueStep("the first of them hidden", x, 0, 1, 1);
        x.guard(1, 1);
        dueStep("the first of them brings less", x, 0, 2, 0);
        x.toll(2, 1);
        x.guard(2, 1);
        dueStep("the last of them", x, 0, 3, 0);
    }

    /** A road elsewhere is no step, though it would bring as much. */
    private static void promise19RoadElsewhere() {
        SaltPrices x = withRoads(23, 32, 1, 12);
        x.set(LEGS, 1);
        x.price(1, 200);
        x.price(2, 200);
        x.price(3, 200);
        dueStep("over its own road", x, 0, 2, 0);
        x.toll(2, 1);
        dueStep("over its own road hidden", x, 0, 2, 1);
    }

    /** The last of 14 roads may be the one. */
    private static void promise19TheLastRoad() {
        SaltPrices x = new SaltPrices();
        for (int road = 0; road < 13; road++) {
            x.road(0, 1, 0);
        }
        x.road(7, 0, 5);
        x.set(LEGS, 1);
        x.price(7, 200);
        dueStep("over road 13", x, 0, 13, 1);
        x.guard(13, 12);
        dueStep("over road 13 with guards", x, 0, 13, 0);
    }

    /** "with LEGS roads left": a town that is two roads away matters only with two. */
    private static void promise19WithLegs() {
        SaltPrices x = withRoads(1, 12);
        x.price(2, 300);
        x.set(LEGS, 1);
        dueStep("with one road", x, 0, NONE, 0);
        x.set(LEGS, 2);
        dueStep("with two roads", x, 0, 0, 0);
        x.set(LEGS, 3);
        dueStep("with three roads it may wait first", x, 0, NONE, 0);
    }

    /** With LEGS of 4 the step is told by 4 roads. */
    private static void promise19WithFourLegs() {
        SaltPrices x = withRoads(1, 12, 23);
        x.road(3, 4, 1);
        x.price(4, 300);
        x.set(LEGS, 4);
        dueStep("openly, and hidden at the end", x, 0, 0, 0);
        dueStep("three roads away", x, 1, NONE, 0);
        x.set(LEGS, 3);
        dueStep("with three roads", x, 0, NONE, 0);
        dueStep("three roads away with three roads", x, 1, 1, 0);
    }

    /** Hidden steps at the head of 2, 3 and 4 roads, all of which are gone hidden. */
    private static void promise19HiddenWithEachLegs() {
        SaltPrices x = new SaltPrices();
        for (int town = 0; town < 4; town++) {
            x.road(town, town + 1, 200);
            x.guard(town, 1);
        }
        x.price(4, 999);
        for (int legs = 1; legs <= 4; legs++) {
            x.set(LEGS, legs);
            dueStep("with LEGS of " + legs, x, 4 - legs, 4 - legs, 1);
        }
    }

    // ---- promise 20

    /** "NO_SUCH if there is no such road"; NONE is told only if no error applies. */
    private static void promise20NoSuchRoad() {
        SaltPrices x = new SaltPrices();
        due("fewestGuards(0) without roads", x.fewestGuards(0), NO_SUCH);
        x.road(0, 1, 0);
        for (int road : new int[] {-1, 1, 13, 14, MIN, MAX}) {
            due("fewestGuards(" + road + ")", x.fewestGuards(road), NO_SUCH);
        }
    }

    /** 0 guards are enough where both prices are the same, and not for one coin of difference. */
    private static void promise20NoGuards() {
        SaltPrices x = withRoads(1);
        due("fewestGuards(0)", x.fewestGuards(0), 0);
        x.price(1, 101);
        due("fewestGuards(0) at 101", x.fewestGuards(0), 1);
        x.price(1, 99);
        due("fewestGuards(0) at 99", x.fewestGuards(0), 1);
    }

    /** "is not more than 100 * p": exactly 100 * p by 40 guards. */
    private static void promise20FortyGuards() {
        SaltPrices x = withRoads(1);
        x.set(EYE, 1);
        x.set(FINE, 0);
        x.price(0, 60);
        x.price(1, 100);
        due("60 * 100 is 6000", x.fewestGuards(0), 40);
        x.set(FINE, 1);
        due("61 * 100 less 39 is more, 60 * 100 less 40 is not", x.fewestGuards(0), 40);
        x.set(FINE, 3);
        due("61 * 100 less 39 * 3 is not more", x.fewestGuards(0), 39);
    }

    /** "NONE if 40 are too few": by one coin. */
    private static void promise20FortyAreTooFew() {
        SaltPrices x = withRoads(1);
        x.set(EYE, 1);
        x.set(FINE, 0);
        x.price(0, 59);
        x.price(1, 100);
        due("60 * 100 is more than 5900", x.fewestGuards(0), NONE);
        x.price(0, 100);
        x.price(1, 59);
        due("the other way round", x.fewestGuards(0), NONE);
    }

    /** The chance is 90 at most, so more guards may be too few as well. */
    private static void promise20NoneByTheGreatestChance() {
        SaltPrices x = withRoads(1);
        x.set(EYE, 30);
        x.set(FINE, 0);
        x.price(1, 999);
        x.price(0, 99);
        due("10 * 999 is more than 9900", x.fewestGuards(0), NONE);
        x.price(0, 100);
        due("10 * 999 is not more than 10000", x.fewestGuards(0), 3);
        x.price(0, 1);
        x.set(FINE, 109);
        due("9990 less 90 * 109 is more than 100", x.fewestGuards(0), NONE);
        x.set(FINE, 110);
        due("9990 less 90 * 110 is 90", x.fewestGuards(0), 3);
    }

    /** "in both directions": the dearer end may be either. */
    private static void promise20BothDirections() {
        SaltPrices x = withRoads(1, 10);
        x.price(1, 150);
        due("to the other town", x.fewestGuards(0), 3);
        due("to the first town", x.fewestGuards(1), 3);
    }

    /** "as far as hidden sacks matter": the toll does not, nor do POOL and the guards that the road has. */
    private static void promise20TollAndPoolDoNotMatter() {
        SaltPrices x = withRoads(1, 1);
        x.price(1, 150);
        due("without a toll", x.fewestGuards(0), 3);
        x.toll(0, 200);
        due("with a toll", x.fewestGuards(0), 3);
        x.guard(0, 12);
        due("with 12 guards", x.fewestGuards(0), 3);
        x.guard(0, 0);
        x.set(POOL, 0);
        due("with a POOL of 0", x.fewestGuards(0), 3);
        due("count(2)", x.count(2), 0);
    }

    // ---- promise 21

    /** "NO_SUCH if there is no such town" */
    private static void promise21NoSuchTown() {
        SaltPrices x = new SaltPrices();
        for (int town : new int[] {-1, 8, 256, MIN, MAX}) {
            due("mostPrice(" + town + ")", x.mostPrice(town), NO_SUCH);
        }
    }

    /** "999 if no road bounds it": without roads, with a road elsewhere, with a road that would allow more. */
    private static void promise21NoRoadBoundsIt() {
        SaltPrices x = withRoads(12);
        due("mostPrice(0)", x.mostPrice(0), 999);
        x.road(0, 3, 200);
        x.guard(1, 9);
        x.price(3, 800);
        due("800 + 200 are more", x.mostPrice(0), 999);
        x.price(3, 799);
        due("799 + 200 are 999", x.mostPrice(0), 999);
        x.price(3, 798);
        due("798 + 200 are less", x.mostPrice(0), 998);
    }

    /** 999 also where hidden sacks would allow it exactly: (100 * 899 + 10 * 1) / 90 is 999. */
    private static void promise21HiddenAt999() {
        SaltPrices x = new SaltPrices();
        x.road(0, 1, 200);
        x.guard(0, 1);
        x.set(FINE, 1);
        x.price(1, 899);
        due("89910 / 90 is 999", x.mostPrice(0), 999);
        x.price(1, 898);
        due("89810 / 90 is 997 and a bit", x.mostPrice(0), 997);
        x.price(1, 900);
        due("90010 / 90 is above 999", x.mostPrice(0), 999);
    }

    /** "1 to 999": 1 is the least, next to a town with a price of 1. */
    private static void promise21TheLeast() {
        SaltPrices x = new SaltPrices();
        x.road(0, 1, 200);
        x.price(1, 1);
        due("mostPrice(0) without guards", x.mostPrice(0), 1);
        x.toll(0, 0);
        x.guard(0, 12);
        due("mostPrice(0) without a toll", x.mostPrice(0), 1);
    }

    /** The greatest price is honest, one more is not: rounded down, not up. */
    private static void promise21OneMoreIsNotHonest() {
        SaltPrices x = new SaltPrices();
        x.road(0, 1, 200);
        x.guard(0, 1);
        due("10200 / 90 is 113 and a bit", x.mostPrice(0), 113);
        x.price(0, 113);
        due("ofRoad(0, 6) at 113", x.ofRoad(0, 6), 1);
        x.price(0, 114);
        due("ofRoad(0, 6) at 114", x.ofRoad(0, 6), 0);
    }

    /** "all its roads": the lowest bound of them, be it the first or the last road. */
    private static void promise21AllItsRoads() {
        SaltPrices x = withRoads(1, 20, 3);
        x.price(1, 50);
        x.price(2, 60);
        x.price(3, 70);
        due("the first road", x.mostPrice(0), 50);
        x.price(1, 99);
        due("the one that it is the other town of", x.mostPrice(0), 60);
        x.price(2, 98);
        due("the last road", x.mostPrice(0), 70);
    }

    /** "in the direction to it": that its neighbours are too dear from it does not matter, nor does its own price. */
    private static void promise21InTheDirectionToIt() {
        SaltPrices x = withRoads(1);
        x.price(0, 1);
        x.price(1, 500);
        due("mostPrice(0)", x.mostPrice(0), 500);
        due("mostPrice(1)", x.mostPrice(1), 1);
        x.price(0, 999);
        due("mostPrice(0) again", x.mostPrice(0), 500);
    }

    /** It is not a change. */
    private static void promise21NothingChanges() {
        SaltPrices x = withRoads(1);
        x.price(1, 500);
        x.mostPrice(0);
        due("ofTown(0, 0)", x.ofTown(0, 0), 100);
        due("count(17)", x.count(17), 2);
    }

    // ---- promise 22

    /** Without roads, and where prices are honest, it is 0. */
    private static void promise22NoTown() {
        SaltPrices x = new SaltPrices();
        x.price(0, 999);
        due("ifHonest() without roads", x.ifHonest(), 0);
        x.road(1, 2, 0);
        due("ifHonest() of honest prices", x.ifHonest(), 0);
    }

    /** All towns but the cheapest one, 7 at most. */
    private static void promise22SevenTowns() {
        SaltPrices x = withRoads(1, 12, 23, 34, 45, 56, 67);
        x.price(7, 1);
        due("ifHonest()", x.ifHonest(), 7);
    }

    /** "what if; nothing changes": no price does, and nothing is recorded. */
    private static void promise22NothingChanges() {
        SaltPrices x = withRoads(1);
        x.price(1, 500);
        due("ifHonest()", x.ifHonest(), 1);
        due("ifHonest() again", x.ifHonest(), 1);
        due("ofTown(1, 0)", x.ofTown(1, 0), 500);
        due("count(17)", x.count(17), 2);
        due("makeHonest()", x.makeHonest(), 1);
        due("ifHonest() then", x.ifHonest(), 0);
    }

    // ---- promise 23

    /** A cart in town 0 with so many coins and 5 sacks; road 0 to town 1, road 1 from there to town 2. */
    private static SaltPrices withFiveSacks(int coins) {
        SaltPrices x = withRoads(1, 12);
        x.cart(0, coins + 500);
        x.buy(0, 5);
        return x;
    }

    /** "NO_SUCH if there is no such cart or road" */
    private static void promise23NoSuchCartOrRoad() {
        SaltPrices x = withRoads(1);
        due("wouldHave(0, 0, 0) without carts", x.wouldHave(0, 0, 0), NO_SUCH);
        x.cart(0, 0);
        for (int number : new int[] {-1, 1, 6, 14, MIN, MAX}) {
            due("wouldHave(" + number + ", 0, 0)", x.wouldHave(number, 0, 0), NO_SUCH);
            due("wouldHave(0, " + number + ", 0)", x.wouldHave(0, number, 0), NO_SUCH);
            due("wouldHave(0, " + number + ", 1)", x.wouldHave(0, number, 1), NO_SUCH);
        }
    }

    /** "BAD_VALUE if found is neither" */
    private static void promise23FoundIsNeither() {
        SaltPrices x = withFiveSacks(100);
        for (int found : new int[] {-1, 2, MIN, MAX}) {
            due("wouldHave(0, 0, " + found + ")", x.wouldHave(0, 0, found), BAD_VALUE);
        }
    }

    /** "NOT_POSSIBLE if the road is not at its town" */
    private static void promise23RoadElsewhere() {
        SaltPrices x = withFiveSacks(100);
        due("wouldHave(0, 1, 0)", x.wouldHave(0, 1, 0), NOT_POSSIBLE);
        due("wouldHave(0, 1, 1)", x.wouldHave(0, 1, 1), NOT_POSSIBLE);
        x.go(0, 0, 0);
        due("wouldHave(0, 1, 0) from town 1", x.wouldHave(0, 1, 0), 600);
    }

    /** NO_SUCH is told ahead of BAD_VALUE, BAD_VALUE ahead of NOT_POSSIBLE. */
    private static void promise23OrderOfErrors() {
        SaltPrices x = withFiveSacks(100);
        due("wouldHave(1, 0, 2)", x.wouldHave(1, 0, 2), NO_SUCH);
        due("wouldHave(0, 2, 2)", x.wouldHave(0, 2, 2), NO_SUCH);
        due("wouldHave(0, 1, 2)", x.wouldHave(0, 1, 2), BAD_VALUE);
    }

    /** "FINE for each, or all its coins, if they are less": one coin more, exactly the fine, one less, none. */
    private static void promise23FineOfItsCoins() {
        int[] coins = {101, 100, 99, 0};
        int[] dues = {1, 0, 0, 0};
        for (int i = 0; i < coins.length; i++) {
            due("found with " + coins[i], withFiveSacks(coins[i]).wouldHave(0, 0, 1), dues[i]);
        }
        SaltPrices x = withFiveSacks(100);
        x.set(FINE, 19);
        due("found with a FINE of 19", x.wouldHave(0, 0, 1), 5);
        x.set(FINE, 0);
        due("found with a FINE of 0", x.wouldHave(0, 0, 1), 100);
        x.set(FINE, 500);
        due("found with a FINE of 500", x.wouldHave(0, 0, 1), 0);
    }

    /** Without sacks nothing is paid and nothing is sold. */
    private static void promise23WithoutSacks() {
        SaltPrices x = withRoads(1);
        x.cart(0, 77);
        due("wouldHave(0, 0, 0)", x.wouldHave(0, 0, 0), 77);
        due("wouldHave(0, 0, 1)", x.wouldHave(0, 0, 1), 77);
    }

    /** "(bounds do not matter)": the coins may be above 99999. */
    private static void promise23AboveTheBound() {
        SaltPrices x = withRoads(1);
        x.price(0, 1);
        x.price(1, 999);
        x.cart(0, 99999);
        x.buy(0, 99);
        due("wouldHave(0, 0, 0)", x.wouldHave(0, 0, 0), 99900 + 98901);
        due("wouldHave(0, 0, 1)", x.wouldHave(0, 0, 1), 99900 - 1980);
    }

    /** Sold "in its town then": the other one, from either end; the toll is not paid. */
    private static void promise23InTheOtherTown() {
        SaltPrices x = withFiveSacks(10);
        x.toll(0, 200);
        x.price(1, 7);
        due("from town 0", x.wouldHave(0, 0, 0), 45);
        x.go(0, 0, 1);
        due("from town 1", x.wouldHave(0, 0, 0), 510);
    }

    /** "if they were found or not": whether the road has guards does not matter. */
    private static void promise23GuardsDoNotMatter() {
        SaltPrices x = withFiveSacks(1000);
        due("found without guards", x.wouldHave(0, 0, 1), 900);
        x.guard(0, 12);
        due("not found by 12 guards", x.wouldHave(0, 0, 0), 1500);
    }

    /** "what if; nothing changes": nothing is drawn, no cart goes. */
    private static void promise23NothingChanges() {
        SaltPrices x = withFiveSacks(1000);
        SaltPrices other = withFiveSacks(1000);
        x.guard(0, 9);
        other.guard(0, 9);
        x.wouldHave(0, 0, 0);
        x.wouldHave(0, 0, 1);
        dueText("all", Everything.of(x), Everything.of(other));
    }
}
