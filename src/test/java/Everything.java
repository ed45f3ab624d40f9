/** All that can be looked at, as a text: two objects with the same text are in the same state, as far as calls tell. */
final class Everything {
    /** A look takes at most so many calls: with the calls ahead of it, an object stays below 512. */
    static final int MOST_CALLS = 400;

    private Everything() {
    }

    static String of(SaltPrices x) {
        StringBuilder all = new StringBuilder();
        for (int what = 0; what < 18; what++) {
            add(all, x.count(what));
        }
        all.append("towns ");
        for (int town = 0; town < 8; town++) {
            addTown(all, x, town);
        }
        int roads = x.count(0);
        all.append("roads ");
        for (int road = 0; road < roads; road++) {
            for (int what = 0; what < 9; what++) {
                add(all, x.ofRoad(road, what));
            }
            add(all, x.fewestGuards(road));
        }
        int carts = x.count(1);
        all.append("carts ");
        for (int cart = 0; cart < carts; cart++) {
            for (int what = 0; what < 8; what++) {
                add(all, x.ofCart(cart, what));
            }
        }
        add(all, x.ifHonest());
        add(all, x.fault());
        return all.append(Check.padOf(x)).toString();
    }

    private static void addTown(StringBuilder all, SaltPrices x, int town) {
        for (int what = 0; what < 4; what++) {
            add(all, x.ofTown(town, what));
        }
        add(all, x.worth(town, 4, 0));
        add(all, x.worth(town, 4, 1));
        add(all, x.step(town, 0));
        add(all, x.step(town, 1));
        add(all, x.mostPrice(town));
    }

    private static void add(StringBuilder all, long number) {
        all.append(number).append(' ');
    }
}
