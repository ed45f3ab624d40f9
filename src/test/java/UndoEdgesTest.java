/** Promises 28 to 30 at their edges: undo, saving. */
public final class UndoEdgesTest extends Edges {
    public static void main(String[] args) throws Exception {
        Sentences.run(UndoEdgesTest.class);
    }

    // ---- promise 28

    /** "NOT_POSSIBLE if there is none": of a new object, and behind the last state. */
    private static void promise28NothingToUndo() {
        SaltPrices x = new SaltPrices();
        due("undo()", x.undo(), NOT_POSSIBLE);
        due("undo() again", x.undo(), NOT_POSSIBLE);
        x.price(0, 5);
        due("undo() of one", x.undo(), 0);
        due("undo() of none", x.undo(), NOT_POSSIBLE);
        due("ofTown(0, 0)", x.ofTown(0, 0), 100);
    }

    /** "A history of at most 6 states is kept": 6 changes are all undone. */
    private static void promise28SixStates() {
        SaltPrices x = new SaltPrices();
        for (int price = 1; price <= 6; price++) {
            x.price(0, price);
        }
        for (int left = 5; left >= 0; left--) {
            due("undo()", x.undo(), left);
            due("ofTown(0, 0)", x.ofTown(0, 0), left == 0 ? 100 : left);
        }
        due("undo()", x.undo(), NOT_POSSIBLE);
    }

    /** "when one more is recorded, the oldest one is dropped": of 7 changes the first one stays. */
    private static void promise28SevenStates() {
        SaltPrices x = new SaltPrices();
        for (int price = 1; price <= 7; price++) {
            x.price(0, price);
        }
        due("count(17)", x.count(17), 6);
        for (int left = 5; left >= 0; left--) {
            due("undo()", x.undo(), left);
            due("ofTown(0, 0)", x.ofTown(0, 0), left + 1);
        }
        due("undo()", x.undo(), NOT_POSSIBLE);
        due("ofTown(0, 0)", x.ofTown(0, 0), 1);
    }

    /** The oldest ones are dropped again and again: whatever the number of changes, the latest 6 are undone. */
    private static void promise28ManyStates() {
        for (int changes = 8; changes <= 30; changes++) {
            SaltPrices x = new SaltPrices();
            for (int price = 1; price <= changes; price++) {
                x.price(0, price);
            }
            for (int left = 5; left >= 0; left--) {
                due("undo() of " + changes, x.undo(), left);
                due("ofTown(0, 0) of " + changes, x.ofTown(0, 0), changes - 6 + left);
            }
            due("undo() of " + changes, x.undo(), NOT_POSSIBLE);
        }
    }

    /** Undone and changed by turns, the history is filled again to 6 and no further. */
    private static void promise28FilledAgain() {
        SaltPrices x = new SaltPrices();
        for (int price = 1; price <= 9; price++) {
            x.price(0, price);
        }
        for (int i = 0; i < 4; i++) {
            x.undo();
        }
        due("count(17)", x.count(17), 2);
        due("ofTown(0, 0)", x.ofTown(0, 0), 5);
        for (int price = 11; price <= 15; price++) {
            due("price(0, " + price + ")", x.price(0, price), price == 11 ? 5 : price - 1);
        }
        due("count(17)", x.count(17), 6);
        int[] prices = {14, 13, 12, 11, 5, 4};
        for (int i = 0; i < 6; i++) {
            due("undo()", x.undo(), 5 - i);
            due("ofTown(0, 0)", x.ofTown(0, 0), prices[i]);
        }
        due("undo()", x.undo(), NOT_POSSIBLE);
    }

    /** "each method that is a change, and returns no error, records the state before it (also if nothing is different)". */
    private static void promise28RecordsEachChange() {
        SaltPrices x = withRoads(1);
        x.cart(0, 500);
        int before = x.count(17);
        x.price(0, 100);
        due("price(0, 100)", x.count(17), before + 1);
        x.set(FINE, 20);
        due("set(FINE, 20)", x.count(17), before + 2);
        x.guard(0, 0);
        due("guard(0, 0)", x.count(17), before + 3);
        x.toll(0, 0);
        due("toll(0, 0)", x.count(17), before + 4);
        for (int i = 0; i < 4; i++) {
            x.undo();
        }
        x.makeHonest();
        due("makeHonest()", x.count(17), before + 1);
        x.buy(0, 1);
        due("buy(0, 1)", x.count(17), before + 2);
        x.sell(0, 1);
        due("sell(0, 1)", x.count(17), before + 3);
        x.go(0, 0, 0);
        due("go(0, 0, 0)", x.count(17), before + 4);
        for (int i = 0; i < 4; i++) {
            x.undo();
        }
        x.save(0);
        x.restore(0);
        due("restore(0)", x.count(17), before + 1);
        put(x, "p0=0");
        x.carryOut();
        due("carryOut()", x.count(17), before + 2);
        x.road(3, 4, 0);
        due("road(3, 4, 0)", x.count(17), before + 3);
        x.cart(3, 0);
        due("cart(3, 0)", x.count(17), before + 4);
    }

    /** A state that is the same as the one before it is undone by itself. */
    private static void promise28NothingDifferent() {
        SaltPrices x = new SaltPrices();
        x.price(0, 5);
        x.price(0, 5);
        due("undo()", x.undo(), 1);
        due("ofTown(0, 0)", x.ofTown(0, 0), 5);
        due("undo()", x.undo(), 0);
        due("ofTown(0, 0)", x.ofTown(0, 0), 100);
    }

    /** The calls that tell and put record nothing. */
    private static void promise28WhatIsNoChange() {
        SaltPrices x = withRoads(1);
        x.cart(0, 500);
        int before = x.count(17);
        x.write();
        x.wipe();
        x.put('a');
        x.fault();
        x.carryOut();
        x.ifHonest();
        x.wouldHave(0, 0, 1);
        x.step(0, 0);
        x.fewestGuards(0);
        x.mostPrice(0);
        x.worth(0, 4, 0);
        x.sign(0);
        x.save(0);
        due("count(17)", x.count(17), before);
    }

    /** "Undoes the latest change": undo is not undone by undo. */
    private static void promise28UndoIsNotAChange() {
        SaltPrices x = new SaltPrices();
        x.price(0, 5);
        x.price(0, 6);
        due("undo()", x.undo(), 1);
        due("undo()", x.undo(), 0);
        due("ofTown(0, 0)", x.ofTown(0, 0), 100);
    }

    /** "everything is as it was before it": of each change, all that can be looked at. */
    private static void promise28EverythingAsItWas() {
        for (int change = 0; change < CHANGES; change++) {
            SaltPrices x = unlikeItsSlots();
            SaltPrices other = unlikeItsSlots();
            int answer = doChange(x, change);
            due("change " + change + " answers no error", answer >= 0 ? 1 : 0, 1);
            due("undo() of change " + change, x.undo(), 5);
            other.price(0, 100);
            other.undo();
            dueText("all behind change " + change, Everything.of(x), Everything.of(other));
        }
    }

    private static final int CHANGES = 13;

    private static int doChange(SaltPrices x, int change) {
        switch (change) {
            case 0:
                return x.set(FINE, 7);
            case 1:
                return x.set(LEGS, 1);
            case 2:
                return x.road(6, 7, 8);
            case 3:
                return x.price(5, 1);
            case 4:
                return x.guard(1, 1);
            case 5:
                return x.toll(0, 199);
            case 6:
                return x.makeHonest();
            case 7:
                return x.cart(7, 12345);
            case 8:
                return x.buy(0, 1);
            case 9:
                return x.sell(0, 1);
            case 10:
                return x.go(0, 0, 0);
            case 11:
                return x.go(0, 0, 1);
            default:
                return x.restore(1);
        }
    }

    /** Neither slot holds what undo is to bring back. */
    private static SaltPrices unlikeItsSlots() {
        SaltPrices x = full();
        x.set(LEGS, 2);
        x.price(6, 60);
        return x;
    }

    /** Some of all: roads, carts, sacks, trips, losses, settings, both slots, and a full history. */
    private static SaltPrices full() {
        SaltPrices x = new SaltPrices();
        x.save(1);
        x.road(0, 1, 20);
        x.road(1, 2, 5);
        x.price(1, 150);
        x.set(EYE, 20);
        x.guard(0, 2);
        x.cart(0, 2000);
        x.cart(1, 3000);
        x.buy(1, 3);
        x.go(1, 0, 1);
        x.buy(0, 4);
        x.save(0);
        return x;
    }

    /** Roads and carts that came in the place of others are the ones that were there before, in each field. */
    private static void promise28OthersInTheirPlace() {
        SaltPrices x = inTheirPlace();
        due("undo()", x.undo(), 5);
        due("undo()", x.undo(), 4);
        due("undo()", x.undo(), 3);
        dueText("all", Everything.of(x), Everything.of(beforeRestore()));
    }

    /** Roads 0 and 1 and cart 0 with a past, and a slot without them. */
    private static SaltPrices beforeRestore() {
        SaltPrices x = new SaltPrices();
        x.save(0);
        put(x, "r01*3;r12*4;g0:2;g1:9;c0*5000;b0*9;o0:0;s0*1");
        x.carryOut();
        put(x, "h0:1;c2*77");
        x.carryOut();
        x.save(1);
        x.price(0, 5);
        return x;
    }

    private static SaltPrices inTheirPlace() {
        SaltPrices x = beforeRestore();
        x.restore(0);
        x.road(5, 6, 7);
        x.cart(7, 8);
        return x;
    }

    /** "except the pad": a text put before or behind the change stays. */
    private static void promise28PadStays() {
        SaltPrices x = new SaltPrices();
        put(x, "abc");
        x.price(0, 5);
        put(x, "defgh");
        due("undo()", x.undo(), 0);
        dueText("the pad", Check.padOf(x), "abcdefgh");
        x.price(0, 5);
        x.wipe();
        due("undo()", x.undo(), 0);
        due("count(16)", x.count(16), 0);
    }

    /** "except the slots": what was saved behind the change stays saved. */
    private static void promise28SlotsStay() {
        SaltPrices x = new SaltPrices();
        x.cart(0, 5);
        x.save(0);
        due("undo()", x.undo(), 0);
        due("restore(1)", x.restore(1), NOT_POSSIBLE);
        due("restore(0)", x.restore(0), 1);
        due("ofCart(0, 1)", x.ofCart(0, 1), 5);
    }

    /** "An order of a text records nothing by itself." */
    private static void promise28OrdersRecordNothing() {
        SaltPrices x = new SaltPrices();
        put(x, "p0=5;p0=6;p0=7");
        due("carryOut()", x.carryOut(), 3);
        due("count(17)", x.count(17), 1);
        due("undo()", x.undo(), 0);
        due("ofTown(0, 0)", x.ofTown(0, 0), 100);
    }

    /** A call that returns an error records nothing, also where the history is full. */
    private static void promise28ErrorsRecordNothing() {
        SaltPrices x = new SaltPrices();
        for (int price = 1; price <= 8; price++) {
            x.price(0, price);
        }
        x.price(0, 1000);
        x.set(FINE, 501);
        x.restore(0);
        x.carryOut();
        due("undo()", x.undo(), 5);
        due("ofTown(0, 0)", x.ofTown(0, 0), 7);
        x.road(0, 0, 0);
        x.cart(8, 0);
        due("undo()", x.undo(), 4);
        due("ofTown(0, 0)", x.ofTown(0, 0), 6);
    }

    /** x is as it was: the same number is drawn again. */
    private static void promise28DrawnAgain() {
        SaltPrices x = withRoads(1);
        x.cart(0, 500);
        x.buy(0, 5);
        x.set(EYE, 1);
        x.set(POOL, 40);
        x.guard(0, 38);
        due("go(0, 0, 1)", x.go(0, 0, 1), 5);
        x.undo();
        due("count(11)", x.count(11), 1);
        due("ofCart(0, 2)", x.ofCart(0, 2), 5);
        x.guard(0, 37);
        due("go(0, 0, 1) with a guard less", x.go(0, 0, 1), 0);
        due("count(11)", x.count(11), 149);
    }

    // ---- promise 29

    /** "slot: 0 or 1", else BAD_VALUE. */
    private static void promise29NoSuchSlot() {
        SaltPrices x = new SaltPrices();
        for (int slot : new int[] {-1, 2, MIN, MAX}) {
            due("save(" + slot + ")", x.save(slot), BAD_VALUE);
        }
        due("restore(0)", x.restore(0), NOT_POSSIBLE);
        due("restore(1)", x.restore(1), NOT_POSSIBLE);
    }

    /** "Returns how many carts there are", 0 to 6. */
    private static void promise29HowManyCarts() {
        SaltPrices x = new SaltPrices();
        for (int carts = 0; carts <= 6; carts++) {
            due("save(1)", x.save(1), carts);
            due("save(0)", x.save(0), carts);
            x.cart(0, 0);
        }
    }

    /** "and overwrites what was saved there": roads, carts and prices, more or fewer. */
    private static void promise29Overwrites() {
        SaltPrices x = withRoads(1, 12);
        x.cart(0, 5);
        x.price(3, 7);
        due("save(0)", x.save(0), 1);
        for (int i = 0; i < 4; i++) {
            x.undo();
        }
        due("save(0) of nothing", x.save(0), 0);
        x.cart(1, 6);
        x.cart(1, 7);
        due("restore(0)", x.restore(0), 0);
        dueText("all", Everything.of(x), Everything.of(afterThreeChanges()));
    }

    /** As a new object, with three changes that change nothing. */
    private static SaltPrices afterThreeChanges() {
        SaltPrices x = new SaltPrices();
        for (int i = 0; i < 3; i++) {
            x.price(0, 100);
        }
        return x;
    }

    /** One slot is not the other one. */
    private static void promise29TwoSlots() {
        SaltPrices x = new SaltPrices();
        x.price(0, 5);
        x.save(0);
        x.price(0, 6);
        x.save(1);
        x.price(0, 7);
        due("restore(0)", x.restore(0), 0);
        due("ofTown(0, 0)", x.ofTown(0, 0), 5);
        due("restore(1)", x.restore(1), 0);
        due("ofTown(0, 0)", x.ofTown(0, 0), 6);
    }

    /** It is not a change: nothing is recorded, nothing is different. */
    private static void promise29IsNotAChange() {
        SaltPrices x = full();
        SaltPrices other = full();
        due("save(0)", x.save(0), 2);
        dueText("all", Everything.of(x), Everything.of(other));
        SaltPrices bare = new SaltPrices();
        bare.save(0);
        due("undo()", bare.undo(), NOT_POSSIBLE);
    }

    /** "Saves everything": all that can be looked at, but the pad and the history. */
    private static void promise29Everything() {
        SaltPrices x = full();
        for (int change = 0; change < CHANGES; change++) {
            doChange(x, change);
        }
        due("restore(0)", x.restore(0), 2);
        SaltPrices other = full();
        other.price(0, 100);
        dueText("all", Everything.of(x), Everything.of(other));
    }

    /** "except the pad": it is neither saved nor restored. */
    private static void promise29PadIsNotSaved() {
        SaltPrices x = new SaltPrices();
        put(x, "abc");
        x.save(0);
        x.wipe();
        put(x, "de");
        x.restore(0);
        dueText("the pad", Check.padOf(x), "de");
    }

    // ---- promise 30

    /** "BAD_VALUE if there is no such slot" */
    private static void promise30NoSuchSlot() {
        SaltPrices x = new SaltPrices();
        x.save(0);
        x.save(1);
        for (int slot : new int[] {-1, 2, MIN, MAX}) {
            due("restore(" + slot + ")", x.restore(slot), BAD_VALUE);
        }
        due("count(17)", x.count(17), 0);
    }

    /** BAD_VALUE is told ahead of NOT_POSSIBLE. */
    private static void promise30OrderOfErrors() {
        SaltPrices x = new SaltPrices();
        due("restore(2) where nothing was saved", x.restore(2), BAD_VALUE);
        due("restore(-1) where nothing was saved", x.restore(-1), BAD_VALUE);
    }

    /** "NOT_POSSIBLE if nothing was saved in it", though something was in the other one. */
    private static void promise30NothingSaved() {
        for (int slot = 0; slot <= 1; slot++) {
            SaltPrices x = new SaltPrices();
            due("restore(0)", x.restore(0), NOT_POSSIBLE);
            due("restore(1)", x.restore(1), NOT_POSSIBLE);
            x.price(0, 5);
            x.save(slot);
            due("restore of the other slot", x.restore(1 - slot), NOT_POSSIBLE);
            due("ofTown(0, 0)", x.ofTown(0, 0), 5);
            due("count(17)", x.count(17), 1);
            due("restore(" + slot + ")", x.restore(slot), 0);
        }
    }

    /** "Returns how many carts there are then", 0 to 6. */
    private static void promise30HowManyCarts() {
        SaltPrices x = new SaltPrices();
        x.save(0);
        for (int cart = 0; cart < 6; cart++) {
            x.cart(0, 0);
        }
        x.save(1);
        due("restore(0)", x.restore(0), 0);
        due("count(1)", x.count(1), 0);
        due("restore(1)", x.restore(1), 6);
        due("count(1)", x.count(1), 6);
    }

    /** "which keeps it": restored twice, and what changes behind it does not change what was saved. */
    private static void promise30SlotKeepsIt() {
        SaltPrices x = full();
        x.restore(0);
        for (int change = 0; change < CHANGES - 1; change++) {
            doChange(x, change);
        }
        due("restore(0)", x.restore(0), 2);
        SaltPrices other = full();
        other.price(0, 100);
        dueText("all", Everything.of(x), Everything.of(other));
        x.undo();
        due("restore(0) behind undo", x.restore(0), 2);
        dueText("all again", Everything.of(x), Everything.of(other));
    }

    /** What was saved comes in the place of other roads and carts, in each field. */
    private static void promise30OthersInTheirPlace() {
        SaltPrices x = inTheirPlace();
        due("restore(1)", x.restore(1), 2);
        x.price(0, 5);
        SaltPrices other = beforeRestore();
        for (int i = 0; i < 4; i++) {
            other.price(0, 5);
        }
        due("count(17)", other.count(17), 6);
        dueText("all", Everything.of(x), Everything.of(other));
    }

    /** "This is a change", also if nothing is different; undo brings back what was before it. */
    private static void promise30IsAChange() {
        SaltPrices x = new SaltPrices();
        x.save(0);
        due("restore(0)", x.restore(0), 0);
        due("count(17)", x.count(17), 1);
        x.cart(3, 4);
        due("restore(0)", x.restore(0), 0);
        due("undo()", x.undo(), 2);
        due("count(1)", x.count(1), 1);
        due("ofCart(0, 1)", x.ofCart(0, 1), 4);
    }

    /** The history goes on: it is not restored. */
    private static void promise30HistoryStays() {
        SaltPrices x = new SaltPrices();
        x.save(0);
        for (int price = 1; price <= 4; price++) {
            x.price(0, price);
        }
        due("restore(0)", x.restore(0), 0);
        due("count(17)", x.count(17), 5);
        due("undo()", x.undo(), 4);
        due("ofTown(0, 0)", x.ofTown(0, 0), 4);
        due("undo()", x.undo(), 3);
        due("ofTown(0, 0)", x.ofTown(0, 0), 3);
    }

    /** Of a full history restore drops the oldest state, as each change does. */
    private static void promise30FullHistory() {
        SaltPrices x = new SaltPrices();
        x.save(1);
        for (int price = 1; price <= 6; price++) {
            x.price(0, price);
        }
        due("restore(1)", x.restore(1), 0);
        for (int left = 5; left >= 0; left--) {
            due("undo()", x.undo(), left);
            due("ofTown(0, 0)", x.ofTown(0, 0), left + 1);
        }
        due("undo()", x.undo(), NOT_POSSIBLE);
    }

    /** "what was saved last": behind a second save the first one is gone. */
    private static void promise30SavedLast() {
        SaltPrices x = new SaltPrices();
        x.price(0, 5);
        x.save(1);
        x.price(0, 6);
        x.save(1);
        x.price(0, 7);
        x.restore(1);
        due("ofTown(0, 0)", x.ofTown(0, 0), 6);
    }

    /** Settings are restored as well: more guards than POOL cannot come of it. */
    private static void promise30SettingsAndGuards() {
        SaltPrices x = withRoads(1);
        x.guard(0, 12);
        x.save(0);
        x.guard(0, 0);
        x.set(POOL, 0);
        due("restore(0)", x.restore(0), 0);
        due("count(15)", x.count(15), 12);
        due("count(2)", x.count(2), 12);
        due("guard(0, 13)", x.guard(0, 13), NOT_POSSIBLE);
    }
}
