/** Promises 12 to 18 at their edges: the list of prices, what there is. */
public final class LookEdgesTest extends Edges {
    public static void main(String[] args) throws Exception {
        Sentences.run(LookEdgesTest.class);
    }

    private static SaltPrices withPrices(int... prices) {
        SaltPrices x = new SaltPrices();
        for (int town = 0; town < prices.length; town++) {
            x.price(town, prices[town]);
        }
        return x;
    }

    // ---- promise 12

    /** The shortest list has 15 characters, of 8 prices of one digit; 1 and 9 are the ends of one digit. */
    private static void promise12TheShortestList() {
        SaltPrices x = withPrices(1, 9, 2, 8, 3, 7, 4, 6);
        due("write()", x.write(), 15);
        dueText("the pad", Check.padOf(x), "1/9/2/8/3/7/4/6");
    }

    /** The longest list has 31 characters. */
    private static void promise12TheLongestList() {
        SaltPrices x = withPrices(999, 100, 101, 110, 909, 990, 500, 123);
        due("write()", x.write(), 31);
        dueText("the pad", Check.padOf(x), "999/100/101/110/909/990/500/123");
    }

    /** Prices where the number of digits changes: 9 and 10, 99 and 100. */
    private static void promise12WhereDigitsChange() {
        SaltPrices x = withPrices(9, 10, 99, 100, 90, 11, 20, 1);
        due("write()", x.write(), 22);
        dueText("the pad", Check.padOf(x), "9/10/99/100/90/11/20/1");
    }

    /** "in place of what was there": also where the pad was full. */
    private static void promise12InPlaceOfAFullPad() {
        SaltPrices x = new SaltPrices();
        for (int i = 0; i < 10; i++) {
            put(x, "abcdefgh");
        }
        due("count(16)", x.count(16), 80);
        due("write()", x.write(), 31);
        dueText("the pad", Check.padOf(x), "100/100/100/100/100/100/100/100");
        due("sign(31)", x.sign(31), NO_SUCH);
    }

    /** It is written anew by each call, not appended. */
    private static void promise12WrittenTwice() {
        SaltPrices x = new SaltPrices();
        x.write();
        x.price(0, 5);
        due("write()", x.write(), 29);
        due("count(16)", x.count(16), 29);
        due("put('x') behind it", x.put('x'), 30);
    }

    /** "This is not a change." */
    private static void promise12IsNotAChange() {
        SaltPrices x = new SaltPrices();
        due("write()", x.write(), 31);
        due("count(17)", x.count(17), 0);
        due("undo()", x.undo(), NOT_POSSIBLE);
    }

    // ---- promise 13

    /** "NO_SUCH if there is no such town" */
    private static void promise13NoSuchTown() {
        SaltPrices x = new SaltPrices();
        for (int town : new int[] {-1, 8, 256, MIN, MAX}) {
            for (int what = 0; what < 4; what++) {
                due("ofTown(" + town + ", " + what + ")", x.ofTown(town, what), NO_SUCH);
            }
        }
    }

    /** "BAD_VALUE if what is out of range" */
    private static void promise13WhatOutOfRange() {
        SaltPrices x = new SaltPrices();
        for (int what : new int[] {-1, 4, MIN, MAX}) {
            due("ofTown(0, " + what + ")", x.ofTown(0, what), BAD_VALUE);
            due("ofTown(7, " + what + ")", x.ofTown(7, what), BAD_VALUE);
        }
    }

    /** NO_SUCH is told ahead of BAD_VALUE. */
    private static void promise13OrderOfErrors() {
        SaltPrices x = new SaltPrices();
        due("ofTown(8, 4)", x.ofTown(8, 4), NO_SUCH);
        due("ofTown(-1, -1)", x.ofTown(-1, -1), NO_SUCH);
    }

    /** "1 its roads, as a set": empty, with the first road, the last one, all 14; at both ends of a road. */
    private static void promise13SetOfRoads() {
        SaltPrices x = withRoads(1);
        for (int road = 1; road < 13; road++) {
            x.road(road % 2 == 0 ? 0 : 2, road % 2 == 0 ? 2 : 0, 0);
        }
        x.road(7, 0, 0);
        due("ofTown(0, 1)", x.ofTown(0, 1), 16383);
        due("ofTown(1, 1)", x.ofTown(1, 1), 1);
        due("ofTown(2, 1)", x.ofTown(2, 1), 8190);
        due("ofTown(7, 1)", x.ofTown(7, 1), 8192);
        due("ofTown(3, 1)", x.ofTown(3, 1), 0);
    }

    /** "2 carts there, as a set": empty, with the first cart, the last one, all 6. */
    private static void promise13SetOfCarts() {
        SaltPrices x = withRoads(1, 17);
        for (int cart = 0; cart < 6; cart++) {
            x.cart(1, 0);
        }
        due("ofTown(1, 2)", x.ofTown(1, 2), 63);
        due("ofTown(0, 2)", x.ofTown(0, 2), 0);
        x.go(0, 0, 0);
        x.go(5, 1, 1);
        due("ofTown(0, 2)", x.ofTown(0, 2), 1);
        due("ofTown(7, 2)", x.ofTown(7, 2), 32);
        due("ofTown(1, 2)", x.ofTown(1, 2), 30);
    }

    /** "Hiding pays in a town if worth(town, LEGS) is more than openly alone": the same is not more. */
    private static void promise13HidingPaysIfMore() {
        SaltPrices x = new SaltPrices();
        x.road(0, 1, 30);
        x.price(1, 200);
        x.set(LEGS, 1);
        x.set(FINE, 10);
        x.guard(0, 1);
        // Openly 17000, hidden 90 * 200 - 10 * 10 = 17900.
        due("ofTown(0, 3)", x.ofTown(0, 3), 1);
        x.set(FINE, 100);
        due("hidden 17000, the same", x.ofTown(0, 3), 0);
        x.set(FINE, 99);
        due("hidden 17010, more", x.ofTown(0, 3), 1);
        x.set(FINE, 101);
        due("hidden 16990, less", x.ofTown(0, 3), 0);
    }

    /** With LEGS roads and not more: what is three roads away matters only with LEGS of 3. */
    private static void promise13HidingPaysWithLegs() {
        SaltPrices x = withRoads(1, 12);
        x.road(2, 3, 50);
        x.price(3, 140);
        int[] dues = {0, 0, 1, 1};
        for (int legs = 1; legs <= 4; legs++) {
            x.set(LEGS, legs);
            due("ofTown(0, 3) with LEGS of " + legs, x.ofTown(0, 3), dues[legs - 1]);
        }
    }

    // ---- promise 14

    /** "NO_SUCH if there is no such road" */
    private static void promise14NoSuchRoad() {
        SaltPrices x = new SaltPrices();
        due("ofRoad(0, 0) without roads", x.ofRoad(0, 0), NO_SUCH);
        x.road(0, 1, 0);
        for (int road : new int[] {-1, 1, 13, 14, MIN, MAX}) {
            for (int what = 0; what < 9; what++) {
                due("ofRoad(" + road + ", " + what + ")", x.ofRoad(road, what), NO_SUCH);
            }
        }
    }

    /** "BAD_VALUE if what is out of range" */
    private static void promise14WhatOutOfRange() {
        SaltPrices x = withRoads(1);
        for (int what : new int[] {-1, 9, MIN, MAX}) {
            due("ofRoad(0, " + what + ")", x.ofRoad(0, what), BAD_VALUE);
        }
    }

    /** NO_SUCH is told ahead of BAD_VALUE. */
    private static void promise14OrderOfErrors() {
        SaltPrices x = withRoads(1);
        due("ofRoad(1, 9)", x.ofRoad(1, 9), NO_SUCH);
        due("ofRoad(-1, -1)", x.ofRoad(-1, -1), NO_SUCH);
    }

    /** "The chance of a road is EYE * its guards, but 90 at most": one below, 90 itself, one step above, far above. */
    private static void promise14ChanceAtMost90() {
        SaltPrices x = withRoads(1);
        x.set(POOL, 40);
        int[] eyes = {1, 30, 11, 10, 9, 13, 7, 10, 30, 30};
        int[] guards = {0, 0, 8, 9, 10, 7, 13, 10, 4, 40};
        int[] chances = {0, 0, 88, 90, 90, 90, 90, 90, 90, 90};
        for (int i = 0; i < eyes.length; i++) {
            x.set(EYE, eyes[i]);
            x.guard(0, guards[i]);
            due("EYE of " + eyes[i] + ", " + guards[i] + " guards", x.ofRoad(0, 4), chances[i]);
        }
    }

    /** The chance follows EYE, and is of this road alone. */
    private static void promise14ChanceByEye() {
        SaltPrices x = withRoads(1, 1);
        x.guard(0, 1);
        due("ofRoad(0, 4)", x.ofRoad(0, 4), 10);
        x.set(EYE, 1);
        due("ofRoad(0, 4)", x.ofRoad(0, 4), 1);
        x.set(EYE, 30);
        due("ofRoad(0, 4)", x.ofRoad(0, 4), 30);
        due("ofRoad(1, 4)", x.ofRoad(1, 4), 0);
    }

    /** "if 100 * q is not more than 100 * (p + toll)": the same is honest, one more is not. */
    private static void promise14HonestAtTheToll() {
        SaltPrices x = new SaltPrices();
        x.road(0, 1, 30);
        x.guard(0, 9);
        x.price(1, 130);
        due("ofRoad(0, 5) at 130", x.ofRoad(0, 5), 1);
        x.price(1, 131);
        due("ofRoad(0, 5) at 131", x.ofRoad(0, 5), 0);
        due("ofRoad(0, 6) at 131", x.ofRoad(0, 6), 1);
        x.price(1, 70);
        due("ofRoad(0, 6) at 70", x.ofRoad(0, 6), 1);
        x.price(1, 69);
        due("ofRoad(0, 6) at 69", x.ofRoad(0, 6), 0);
        due("ofRoad(0, 5) at 69", x.ofRoad(0, 5), 1);
    }

    /** "and (100 - chance) * q less chance * FINE is not more than 100 * p": the same is honest, one more is not. */
    private static void promise14HonestAtTheHiddenPrice() {
        SaltPrices x = new SaltPrices();
        x.road(0, 1, 200);
        x.guard(0, 4);
        x.price(1, 180);
        due("60 * 180 - 40 * 20 is 10000", x.ofRoad(0, 5), 1);
        x.price(1, 181);
        due("60 * 181 - 40 * 20 is more", x.ofRoad(0, 5), 0);
        x.set(FINE, 21);
        due("60 * 181 - 40 * 21 is 10020", x.ofRoad(0, 5), 0);
        x.set(FINE, 22);
        due("60 * 181 - 40 * 22 is 9980", x.ofRoad(0, 5), 1);
    }

    /** Nothing is rounded: 90 * 113 less 200 is below 10000, 90 * 114 less 200 is above. */
    private static void promise14HonestWithARest() {
        SaltPrices x = new SaltPrices();
        x.road(1, 0, 200);
        x.guard(0, 1);
        x.price(1, 113);
        due("ofRoad(0, 6) at 113", x.ofRoad(0, 6), 1);
        x.price(1, 114);
        due("ofRoad(0, 6) at 114", x.ofRoad(0, 6), 0);
        due("ofRoad(0, 5) at 114", x.ofRoad(0, 5), 1);
    }

    /** Without guards a road is honest only where the end is not dearer, whatever the toll. */
    private static void promise14HonestWithoutGuards() {
        SaltPrices x = new SaltPrices();
        x.road(0, 1, 200);
        due("ofRoad(0, 5), the same price", x.ofRoad(0, 5), 1);
        due("ofRoad(0, 6), the same price", x.ofRoad(0, 6), 1);
        x.price(1, 101);
        due("ofRoad(0, 5) at 101", x.ofRoad(0, 5), 0);
        due("ofRoad(0, 6) at 101", x.ofRoad(0, 6), 1);
    }

    /** Prices of 1 and 999, without a toll and with a chance of 90: 10 * 999 less 90 * FINE against 100. */
    private static void promise14HonestAtTheEndsOfPrices() {
        SaltPrices x = new SaltPrices();
        x.road(0, 1, 200);
        x.price(0, 799);
        x.price(1, 999);
        x.guard(0, 12);
        due("ofRoad(0, 5) from 799", x.ofRoad(0, 5), 1);
        x.price(0, 798);
        due("ofRoad(0, 5) from 798", x.ofRoad(0, 5), 0);
        x.price(0, 1);
        x.price(1, 201);
        x.set(FINE, 22);
        due("10 * 201 - 90 * 22 is 30", x.ofRoad(0, 5), 1);
        x.set(FINE, 21);
        due("10 * 201 - 90 * 21 is 120", x.ofRoad(0, 5), 0);
    }

    /** "7 how often carts went over it openly, 8 hidden, so far (with sacks or not)", from both ends. */
    private static void promise14TripsWithSacksOrNot() {
        SaltPrices x = withRoads(1);
        x.cart(0, 1000);
        x.go(0, 0, 0);
        due("openly without sacks", x.ofRoad(0, 7), 1);
        x.go(0, 0, 1);
        due("hidden without sacks", x.ofRoad(0, 8), 1);
        x.buy(0, 1);
        x.go(0, 0, 0);
        due("openly with a sack", x.ofRoad(0, 7), 2);
        x.go(0, 0, 1);
        due("hidden with a sack", x.ofRoad(0, 8), 2);
        x.guard(0, 12);
        due("found, the third number is 26", x.go(0, 0, 1), 1);
        due("hidden, and found", x.ofRoad(0, 8), 3);
        due("openly still", x.ofRoad(0, 7), 2);
    }

    // ---- promise 15

    /** "NO_SUCH if there is no such cart" */
    private static void promise15NoSuchCart() {
        SaltPrices x = new SaltPrices();
        due("ofCart(0, 0) without carts", x.ofCart(0, 0), NO_SUCH);
        x.cart(0, 0);
        for (int cart : new int[] {-1, 1, 5, 6, MIN, MAX}) {
            for (int what = 0; what < 8; what++) {
                due("ofCart(" + cart + ", " + what + ")", x.ofCart(cart, what), NO_SUCH);
            }
        }
    }

    /** "BAD_VALUE if what is out of range" */
    private static void promise15WhatOutOfRange() {
        SaltPrices x = new SaltPrices();
        x.cart(0, 0);
        for (int what : new int[] {-1, 8, MIN, MAX}) {
            due("ofCart(0, " + what + ")", x.ofCart(0, what), BAD_VALUE);
        }
    }

    /** NO_SUCH is told ahead of BAD_VALUE. */
    private static void promise15OrderOfErrors() {
        SaltPrices x = new SaltPrices();
        due("ofCart(0, 8)", x.ofCart(0, 8), NO_SUCH);
        due("ofCart(-1, -1)", x.ofCart(-1, -1), NO_SUCH);
    }

    /** The last of 6 carts is told by itself. */
    private static void promise15TheLastCart() {
        SaltPrices x = withRoads(27);
        x.guard(0, 12);
        for (int cart = 0; cart < 6; cart++) {
            x.cart(2, 1000 + cart);
        }
        x.toll(0, 3);
        x.buy(5, 4);
        x.go(5, 0, 0);
        x.sell(5, 1);
        x.go(5, 0, 1);
        int[] dues = {2, 1005 - 400 - 12 + 100 - 60, 0, 400, 100, 12, 60, 3};
        for (int what = 0; what < dues.length; what++) {
            due("ofCart(5, " + what + ")", x.ofCart(5, what), dues[what]);
        }
        int[] untouched = {2, 1004, 0, 0, 0, 0, 0, 0};
        for (int what = 0; what < untouched.length; what++) {
            due("ofCart(4, " + what + ")", x.ofCart(4, what), untouched[what]);
        }
    }

    // ---- promise 16

    /** "NO_SUCH if there is no such town" */
    private static void promise16NoSuchTown() {
        SaltPrices x = new SaltPrices();
        for (int town : new int[] {-1, 8, 256, MIN, MAX}) {
            due("worth(" + town + ", 0, 0)", x.worth(town, 0, 0), NO_SUCH);
            due("worth(" + town + ", 4, 1)", x.worth(town, 4, 1), NO_SUCH);
        }
    }

    /** "legs: 0 to 4", else BAD_VALUE. */
    private static void promise16LegsOutOfRange() {
        SaltPrices x = new SaltPrices();
        for (int legs : new int[] {-1, 5, MIN, MAX}) {
            due("worth(0, " + legs + ", 0)", x.worth(0, legs, 0), BAD_VALUE);
            due("worth(0, " + legs + ", 1)", x.worth(0, legs, 1), BAD_VALUE);
        }
    }

    /** "open: 1 openly alone, 0 by all roads", else BAD_VALUE. */
    private static void promise16OpenIsNeither() {
        SaltPrices x = new SaltPrices();
        for (int open : new int[] {-1, 2, MIN, MAX}) {
            due("worth(0, 0, " + open + ")", x.worth(0, 0, open), BAD_VALUE);
            due("worth(0, 4, " + open + ")", x.worth(0, 4, open), BAD_VALUE);
        }
    }

    /** NO_SUCH is told ahead of BAD_VALUE. */
    private static void promise16OrderOfErrors() {
        SaltPrices x = new SaltPrices();
        due("worth(8, 5, 0)", x.worth(8, 5, 0), NO_SUCH);
        due("worth(-1, 0, 2)", x.worth(-1, 0, 2), NO_SUCH);
        due("worth(0, 5, 2)", x.worth(0, 5, 2), BAD_VALUE);
    }

    /** "worth(town, 0) is the price", though a road leads to a dearer town; 1 and 999 are the ends. */
    private static void promise16NoLegs() {
        SaltPrices x = withRoads(1);
        x.price(0, 1);
        x.price(1, 999);
        for (int open = 0; open <= 1; open++) {
            due("worth(0, 0, " + open + ")", x.worth(0, 0, open), 1);
            due("worth(1, 0, " + open + ")", x.worth(1, 0, open), 999);
        }
    }

    /** The units are 100 to the power of k, also where the number is above an int's. */
    private static void promise16UnitsOfEachLeg() {
        SaltPrices x = new SaltPrices();
        x.price(7, 999);
        long unit = 1;
        for (int legs = 0; legs <= 4; legs++) {
            for (int open = 0; open <= 1; open++) {
                due("worth(7, " + legs + ", " + open + ")", x.worth(7, legs, open), 999 * unit);
                due("worth(6, " + legs + ", " + open + ")", x.worth(6, legs, open), 100 * unit);
            }
            unit *= 100;
        }
    }

    /** LEGS bounds nothing here: 4 legs are told with LEGS of 1. */
    private static void promise16MoreLegsThanTheSetting() {
        SaltPrices x = withRoads(1, 12, 23, 34, 45);
        x.set(LEGS, 1);
        x.price(4, 500);
        x.price(5, 900);
        due("worth(0, 4, 1)", x.worth(0, 4, 1), 50000000000L);
        due("worth(0, 3, 1)", x.worth(0, 3, 1), 100000000);
        due("worth(1, 4, 1)", x.worth(1, 4, 1), 90000000000L);
    }

    /** "the greatest of these: 100 * worth(town, k - 1)": waiting, where each road brings less, even below 0. */
    private static void promise16Waiting() {
        SaltPrices x = new SaltPrices();
        x.road(0, 1, 200);
        x.set(FINE, 500);
        x.guard(0, 12);
        x.price(0, 1);
        x.price(1, 1);
        for (int legs = 0, unit = 1; legs <= 4; legs++, unit *= 100) {
            due("worth(0, " + legs + ", 0)", x.worth(0, legs, 0), unit);
            due("worth(1, " + legs + ", 1)", x.worth(1, legs, 1), unit);
        }
    }

    /** "openly 100 * worth(t, k - 1), less the toll in these units": exactly the price of waiting, and a coin more. */
    private static void promise16OpenlyAgainstWaiting() {
        SaltPrices x = new SaltPrices();
        x.road(1, 0, 200);
        x.price(1, 300);
        due("300 - 200 is the same", x.worth(0, 1, 1), 10000);
        x.price(1, 301);
        due("301 - 200 is more", x.worth(0, 1, 1), 10100);
        due("worth(0, 4, 1)", x.worth(0, 4, 1), 10100000000L);
        x.price(1, 299);
        due("299 - 200 is less", x.worth(0, 1, 1), 10000);
    }

    /** "hidden (100 - chance) * worth(t, k - 1), less chance * FINE * (100 to the power of k - 1)", from one leg to 4. */
    private static void promise16HiddenInItsUnits() {
        SaltPrices x = new SaltPrices();
        x.road(0, 1, 200);
        x.guard(0, 3);
        x.price(1, 250);
        x.set(FINE, 7);
        due("70 * 250 - 30 * 7", x.worth(0, 1, 0), 17290);
        due("70 * 25000 - 30 * 7 * 100", x.worth(0, 2, 0), 1729000);
        due("worth(0, 3, 0)", x.worth(0, 3, 0), 172900000);
        due("worth(0, 4, 0)", x.worth(0, 4, 0), 17290000000L);
        due("worth(0, 4, 1)", x.worth(0, 4, 1), 10000000000L);
    }

    /** With a chance of 0 nothing is taken off, with 90 a tenth is left. */
    private static void promise16HiddenAtTheEndsOfTheChance() {
        SaltPrices x = new SaltPrices();
        x.road(0, 1, 200);
        x.set(FINE, 500);
        x.price(0, 1);
        x.price(1, 999);
        due("chance of 0", x.worth(0, 1, 0), 99900);
        x.toll(0, 200);
        x.guard(0, 12);
        due("799 openly", x.worth(0, 1, 0), 79900);
        x.set(FINE, 0);
        x.price(1, 201);
        x.price(0, 1);
        due("10 * 201, with 100 openly", x.worth(0, 1, 0), 2010);
    }

    /** A road from one town to the next one, told from this end or from the other one. */
    private static void roadOn(SaltPrices x, int town, int toll, boolean fromTheOtherEnd) {
        if (fromTheOtherEnd) {
            x.road(town + 1, town, toll);
        } else {
            x.road(town, town + 1, toll);
        }
    }

    /** "less the toll in these units": of each of 4 roads in a row, the first with the greatest unit. */
    private static void promise16TollOfEachLeg() {
        dueTolls(false);
        dueTolls(true);
    }

    private static void dueTolls(boolean fromTheOtherEnd) {
        SaltPrices x = new SaltPrices();
        for (int town = 0; town < 4; town++) {
            roadOn(x, town, town + 1, fromTheOtherEnd);
        }
        x.price(4, 999);
        due("worth(3, 1, 1)", x.worth(3, 1, 1), 99500);
        due("worth(2, 2, 1)", x.worth(2, 2, 1), 9920000);
        due("worth(1, 3, 1)", x.worth(1, 3, 1), 990000000);
        due("worth(0, 4, 1)", x.worth(0, 4, 1), 98900000000L);
    }

    /** The chance is the one of the road that is gone, from either of its ends. */
    private static void promise16ChanceOfEachRoad() {
        SaltPrices x = new SaltPrices();
        x.road(0, 1, 200);
        x.road(2, 0, 200);
        x.road(0, 3, 200);
        x.guard(0, 9);
        x.guard(1, 2);
        x.guard(2, 1);
        x.set(FINE, 30);
        x.price(0, 50);
        x.price(1, 200);
        x.price(2, 190);
        x.price(3, 50);
        due("80 * 190 - 20 * 30 over road 1", x.worth(0, 1, 0), 14600);
        x.price(2, 50);
        x.price(3, 180);
        due("90 * 180 - 10 * 30 over road 2", x.worth(0, 1, 0), 15900);
        x.price(3, 50);
        due("waiting, not 10 * 200 - 90 * 30 over road 0", x.worth(0, 1, 0), 5000);
        x.price(0, 190);
        due("80 * 190 - 20 * 30 from the first town of road 1", x.worth(2, 1, 0), 14600);
        due("90 * 190 - 10 * 30 from the other town of road 2", x.worth(3, 1, 0), 16800);
    }

    /** "less chance * FINE * (100 to the power of k - 1)": of each of 4 roads in a row, of which 1 in 10 is found. */
    private static void promise16FineOfEachLeg() {
        dueFines(false);
        dueFines(true);
    }

    private static void dueFines(boolean fromTheOtherEnd) {
        SaltPrices x = new SaltPrices();
        for (int town = 0; town < 4; town++) {
            roadOn(x, town, 200, fromTheOtherEnd);
            x.guard(town, 1);
        }
        x.price(0, 1);
        x.price(1, 2);
        x.price(2, 3);
        x.price(3, 4);
        x.price(4, 999);
        x.set(FINE, 1);
        due("90 * 999 - 10", x.worth(3, 1, 0), 89900);
        due("90 * 89900 - 1000", x.worth(2, 2, 0), 8090000);
        due("90 * 8090000 - 100000", x.worth(1, 3, 0), 728000000);
        due("90 * 728000000 - 10000000", x.worth(0, 4, 0), 65510000000L);
    }

    /** "If it is told openly alone, no road is gone hidden": not the second one either. */
    private static void promise16OpenlyAlone() {
        SaltPrices x = withRoads(1);
        x.road(1, 2, 200);
        x.price(2, 400);
        due("worth(0, 2, 1)", x.worth(0, 2, 1), 2000000);
        due("worth(0, 2, 0)", x.worth(0, 2, 0), 4000000);
    }

    /** A road that leads elsewhere brings nothing to a town: "for each road at the town". */
    private static void promise16RoadsElsewhere() {
        SaltPrices x = withRoads(12);
        x.price(2, 999);
        due("worth(0, 4, 0)", x.worth(0, 4, 0), 10000000000L);
        due("worth(1, 1, 0)", x.worth(1, 1, 0), 99900);
        due("worth(1, 1, 1)", x.worth(1, 1, 1), 99900);
    }

    // ---- promise 17

    /** "NO_SUCH if there is no such place": of an empty pad there is none. */
    private static void promise17EmptyPad() {
        SaltPrices x = new SaltPrices();
        for (int place : new int[] {0, -1, 1, 79, 80, MIN, MAX}) {
            due("sign(" + place + ")", x.sign(place), NO_SUCH);
        }
        put(x, "abc");
        x.wipe();
        due("sign(0) of a wiped pad", x.sign(0), NO_SUCH);
    }

    /** Places are from 0 to the length less one. */
    private static void promise17FirstAndLastPlace() {
        SaltPrices x = new SaltPrices();
        put(x, "a~!");
        due("sign(0)", x.sign(0), 'a');
        due("sign(1)", x.sign(1), 126);
        due("sign(2)", x.sign(2), 33);
        for (int place : new int[] {-1, 3, 79, 80, MIN, MAX}) {
            due("sign(" + place + ")", x.sign(place), NO_SUCH);
        }
    }

    /** A full pad has the places 0 to 79. */
    private static void promise17FullPad() {
        SaltPrices x = new SaltPrices();
        for (int i = 0; i < 10; i++) {
            put(x, "abcdefgh");
        }
        due("sign(0)", x.sign(0), 'a');
        due("sign(79)", x.sign(79), 'h');
        due("sign(80)", x.sign(80), NO_SUCH);
    }

    // ---- promise 18

    /** "BAD_VALUE if what is out of range" */
    private static void promise18WhatOutOfRange() {
        SaltPrices x = new SaltPrices();
        for (int what : new int[] {-1, 18, 19, MIN, MAX}) {
            due("count(" + what + ")", x.count(what), BAD_VALUE);
        }
    }

    /** Roads, carts and guards up to the most there can be. */
    private static void promise18FullOfRoadsCartsGuards() {
        SaltPrices x = new SaltPrices();
        x.set(POOL, 40);
        for (int i = 0; i < 14; i++) {
            due("count(0)", x.count(0), i);
            x.road(0, 1, 0);
            x.guard(i, i == 13 ? 1 : 3);
        }
        due("count(0)", x.count(0), 14);
        due("count(2)", x.count(2), 40);
        for (int i = 0; i < 6; i++) {
            due("count(1)", x.count(1), i);
            x.cart(0, 0);
        }
        due("count(1)", x.count(1), 6);
    }

    /** Sacks and coins of 6 full carts; "10 coins with which carts came so far". */
    private static void promise18FullCarts() {
        SaltPrices x = new SaltPrices();
        x.price(0, 1);
        for (int cart = 0; cart < 6; cart++) {
            x.cart(0, 99999);
        }
        due("count(9)", x.count(9), 599994);
        due("count(10)", x.count(10), 599994);
        for (int cart = 0; cart < 6; cart++) {
            x.buy(cart, 99);
        }
        due("count(3)", x.count(3), 594);
        due("count(4)", x.count(4), 594);
        due("count(9)", x.count(9), 599400);
        due("count(10)", x.count(10), 599994);
        for (int cart = 0; cart < 6; cart++) {
            x.sell(cart, 99);
        }
        due("count(3)", x.count(3), 0);
        due("count(4)", x.count(4), 594);
        due("count(5)", x.count(5), 594);
    }

    /** "6 lost so far": of all carts together. */
    private static void promise18LostOfAllCarts() {
        SaltPrices x = withRoads(1);
        x.guard(0, 9);
        x.cart(0, 1000);
        x.cart(0, 1000);
        x.buy(0, 2);
        x.buy(1, 3);
        x.go(0, 0, 1);
        due("count(6)", x.count(6), 2);
        x.go(1, 0, 1);
        due("count(6)", x.count(6), 5);
        due("count(3)", x.count(3), 0);
    }

    /** "Prices are honest if all roads are honest in both directions": one of the last road alone is not. */
    private static void promise18NotHonestInOneDirection() {
        SaltPrices x = withRoads(1, 12, 23);
        due("count(7)", x.count(7), 1);
        x.price(3, 101);
        due("to the other town of the last road", x.count(7), 0);
        x.price(3, 99);
        due("to the first town of the last road", x.count(7), 0);
        x.price(3, 100);
        x.price(0, 101);
        due("to the first town of the first road", x.count(7), 0);
        x.price(0, 100);
        due("all the same again", x.count(7), 1);
    }

    /** "8 towns in which hiding pays, as a set": none, the first town, the last one. */
    private static void promise18TownsWhereHidingPays() {
        SaltPrices x = new SaltPrices();
        x.road(0, 7, 10);
        x.set(LEGS, 1);
        due("count(8)", x.count(8), 0);
        x.price(7, 150);
        due("count(8)", x.count(8), 1);
        x.price(7, 50);
        due("count(8)", x.count(8), 128);
    }

    /** "12 to 15 the settings" */
    private static void promise18Settings() {
        SaltPrices x = new SaltPrices();
        x.set(FINE, 500);
        x.set(EYE, 30);
        x.set(LEGS, 4);
        x.set(POOL, 40);
        due("count(12)", x.count(12), 500);
        due("count(13)", x.count(13), 30);
        due("count(14)", x.count(14), 4);
        due("count(15)", x.count(15), 40);
    }

    /** "16 the length of the pad", 0 to 80. */
    private static void promise18LengthOfThePad() {
        SaltPrices x = new SaltPrices();
        for (int length = 0; length < 80; length++) {
            due("count(16)", x.count(16), length);
            x.put('a');
        }
        due("count(16)", x.count(16), 80);
        x.put('a');
        due("count(16) behind one too many", x.count(16), 80);
    }

    /** "17 how many changes can be undone", 0 to 6. */
    private static void promise18ChangesToBeUndone() {
        SaltPrices x = new SaltPrices();
        for (int changes = 0; changes < 9; changes++) {
            due("count(17)", x.count(17), Math.min(changes, 6));
            x.price(0, 5);
        }
    }
}
