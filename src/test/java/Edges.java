/** What the tests of the document's edges share. */
abstract class Edges {
    static final int NO_SUCH = -1, BAD_VALUE = -2, BAD_TEXT = -3, TOO_MANY = -4, NOT_POSSIBLE = -5, NONE = -6;
    static final int FINE = 0, EYE = 1, LEGS = 2, POOL = 3;
    static final int MIN = Integer.MIN_VALUE, MAX = Integer.MAX_VALUE;

    static void due(String call, long got, long want) {
        Sentences.due(call, got, want);
    }

    static void dueText(String what, String got, String want) {
        Sentences.dueText(what, got, want);
    }

    /** A new object with roads between the towns that the two digits of each number tell, and tolls of 0. */
    static SaltPrices withRoads(int... towns) {
        SaltPrices x = new SaltPrices();
        for (int both : towns) {
            x.road(both / 10, both % 10, 0);
        }
        return x;
    }

    /** A cart with sacks goes hidden over a road so many times. */
    static void goHidden(SaltPrices x, int cart, int road, int times) {
        for (int i = 0; i < times; i++) {
            x.go(cart, road, 1);
        }
    }

    static void put(SaltPrices x, String text) {
        Check.putText(x, text);
    }
}
