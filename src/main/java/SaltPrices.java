/** Honest salt prices by which smugglers gain nothing. What each method does is told by the document. */
public final class SaltPrices {
    public static final int NO_SUCH = -1, BAD_VALUE = -2, BAD_TEXT = -3, TOO_MANY = -4, NOT_POSSIBLE = -5, NONE = -6;
    public static final int FINE = 0, EYE = 1, LEGS = 2, POOL = 3;

    private static final int SETTINGS = 4;
    private static final int TOWNS = 8;
    private static final int MOST_ROADS = 14;
    private static final int MOST_CARTS = 6;
    private static final int MOST_PRICE = 999;
    private static final int MOST_TOLL = 200;
    private static final int MOST_GUARDS = 40;
    private static final int MOST_CHANCE = 90;
    private static final int MOST_COINS = 99999;
    private static final int MOST_SACKS = 99;
    private static final int MOST_LEGS = 4;
    private static final int MOST_SIGNS = 80;
    private static final int MOST_SIGNS_A_PUT = 8;
    private static final int MOST_DIGITS = 4;
    private static final int MOST_UNDONE = 6;
    private static final int SLOTS = 2;

    private static final int[] FIRST_SETTINGS = {20, 10, 3, 12};
    private static final int[] LEAST_SETTINGS = {0, 1, 1, 0};
    private static final int[] MOST_SETTINGS = {500, 30, 4, 40};
    /** The units of a coin with 0 to 4 roads left. */
    private static final long[] UNITS = {1L, 100L, 10000L, 1000000L, 100000000L};

    private final World world = new World();
    private final History history = new History();
    private final World[] slots = new World[SLOTS];
    private final boolean[] saved = new boolean[SLOTS];
    private final Pad pad = new Pad();
    private final Reader reader = new Reader(pad);
    private final Routes allRoutes = new Routes(false);
    private final Routes openRoutes = new Routes(true);
    /** Made once and used again, so that no call makes an array. */
    private final int[] honestPrices = new int[TOWNS];

    public SaltPrices() {
        for (int slot = 0; slot < SLOTS; slot++) {
            slots[slot] = new World();
        }
    }

    // ---- changes

    public int set(int setting, int value) {
        history.keepInMind(world);
        return recorded(world.changeSetting(setting, value));
    }

    public int road(int town, int other, int toll) {
        history.keepInMind(world);
        return recorded(world.addRoad(town, other, toll));
    }

    public int price(int town, int price) {
        history.keepInMind(world);
        return recorded(world.changePrice(town, price));
    }

    public int guard(int road, int guards) {
        history.keepInMind(world);
        return recorded(world.changeGuards(road, guards));
    }

    public int toll(int road, int toll) {
        history.keepInMind(world);
        return recorded(world.changeToll(road, toll));
    }

    public int makeHonest() {
        history.keepInMind(world);
        int different = findHonestPrices();
        System.arraycopy(honestPrices, 0, world.prices, 0, TOWNS);
        return recorded(different);
    }

    public int cart(int town, int coins) {
        history.keepInMind(world);
        return recorded(world.addCart(town, coins));
    }

    public int buy(int cart, int sacks) {
        history.keepInMind(world);
        return recorded(world.buySacks(cart, sacks));
    }

    public int sell(int cart, int sacks) {
        history.keepInMind(world);
        return recorded(world.sellSacks(cart, sacks));
    }

    public int go(int cart, int road, int hidden) {
        history.keepInMind(world);
        return recorded(world.drive(cart, road, hidden));
    }

    public int write() {
        pad.length = 0;
        for (int town = 0; town < TOWNS; town++) {
            if (town > 0) {
                pad.append('/');
            }
            pad.appendPrice(world.prices[town]);
        }
        return pad.length;
    }

    // ---- what there is

    public int ofTown(int town, int what) {
        if (!isTown(town)) {
            return NO_SUCH;
        }
        switch (what) {
            case 0:
                return world.prices[town];
            case 1:
                return world.roadsAt(town);
            case 2:
                return world.cartsAt(town);
            case 3:
                return (hidingTowns() >> town) & 1;
            default:
                return BAD_VALUE;
        }
    }

    public int ofRoad(int road, int what) {
        if (!world.hasRoad(road)) {
            return NO_SUCH;
        }
        Road told = world.roads[road];
        switch (what) {
            case 0:
                return told.town;
            case 1:
                return told.other;
            case 2:
                return told.toll;
            case 3:
                return told.guards;
            case 4:
                return world.chanceOf(told);
            case 5:
                return bit(world.isHonest(told, told.town));
            case 6:
                return bit(world.isHonest(told, told.other));
            case 7:
                return told.openTrips;
            case 8:
                return told.hiddenTrips;
            default:
                return BAD_VALUE;
        }
    }

    public int ofCart(int cart, int what) {
        if (!world.hasCart(cart)) {
            return NO_SUCH;
        }
        Cart told = world.carts[cart];
        switch (what) {
            case 0:
                return told.town;
            case 1:
                return told.coins;
            case 2:
                return told.sacks;
            case 3:
                return told.spent;
            case 4:
                return told.earned;
            case 5:
                return told.tolls;
            case 6:
                return told.fines;
            case 7:
                return told.lost;
            default:
                return BAD_VALUE;
        }
    }

    public long worth(int town, int legs, int open) {
        if (!isTown(town)) {
            return NO_SUCH;
        }
        if (isOutside(legs, 0, MOST_LEGS) || isOutside(open, 0, 1)) {
            return BAD_VALUE;
        }
        Routes routes = open == 1 ? openRoutes : allRoutes;
        routes.lookAt(world, legs);
        return routes.worths[legs][town];
    }

    public int sign(int place) {
        if (isOutside(place, 0, pad.length - 1)) {
            return NO_SUCH;
        }
        return pad.codeAt(place);
    }

    public int count(int what) {
        switch (what) {
            case 0:
                return world.roadCount;
            case 1:
                return world.cartCount;
            case 2:
                return world.guardsAtRoads();
            case 3:
                return world.sacksOfCarts();
            case 4:
                return world.sacksBought;
            case 5:
                return world.sacksSold;
            case 6:
                return world.sacksLost;
            case 7:
                return bit(world.allHonest());
            case 8:
                return hidingTowns();
            case 9:
                return world.coinsOfCarts();
            case 10:
                return world.coinsBrought;
            case 11:
                return world.drawn;
            case 12:
            case 13:
            case 14:
            case 15:
                return world.settings[what - 12];
            case 16:
                return pad.length;
            case 17:
                return history.size;
            default:
                return BAD_VALUE;
        }
    }

    // ---- what if; nothing changes

    public int step(int town, int what) {
        if (!isTown(town)) {
            return NO_SUCH;
        }
        if (isOutside(what, 0, 1)) {
            return BAD_VALUE;
        }
        int legs = world.settings[LEGS];
        allRoutes.lookAt(world, legs);
        int road = allRoutes.firstRoad(world, town, legs);
        if (what == 0) {
            return road;
        }
        if (!world.hasRoad(road)) {
            return 0;
        }
        return bit(!allRoutes.isBestOpenly(world.roads[road], town, legs));
    }

    public int fewestGuards(int road) {
        if (!world.hasRoad(road)) {
            return NO_SUCH;
        }
        int price = world.prices[world.roads[road].town];
        int otherPrice = world.prices[world.roads[road].other];
        for (int guards = 0; guards <= MOST_GUARDS; guards++) {
            int chance = world.chanceWith(guards);
            if (otherPrice <= world.mostHidden(price, chance) && price <= world.mostHidden(otherPrice, chance)) {
                return guards;
            }
        }
        return NONE;
    }

    public int mostPrice(int town) {
        if (!isTown(town)) {
            return NO_SUCH;
        }
        int most = MOST_PRICE;
        for (int i = 0; i < world.roadCount; i++) {
            Road road = world.roads[i];
            if (road.isAt(town)) {
                most = Math.min(most, world.mostAtEnd(road, world.prices[road.farFrom(town)]));
            }
        }
        return most;
    }

    public int ifHonest() {
        return findHonestPrices();
    }

    public int wouldHave(int cart, int road, int found) {
        if (!world.hasCart(cart) || !world.hasRoad(road)) {
            return NO_SUCH;
        }
        if (isOutside(found, 0, 1)) {
            return BAD_VALUE;
        }
        Cart goer = world.carts[cart];
        Road way = world.roads[road];
        if (!way.isAt(goer.town)) {
            return NOT_POSSIBLE;
        }
        if (found == 1) {
            return goer.coins - world.fineOf(goer);
        }
        return goer.coins + goer.sacks * world.prices[way.farFrom(goer.town)];
    }

    // ---- texts

    public int put(long characters) {
        int signs = countSigns(characters);
        if (signs == 0) {
            return BAD_VALUE;
        }
        if (pad.length + signs > MOST_SIGNS) {
            return TOO_MANY;
        }
        for (int i = signs - 1; i >= 0; i--) {
            pad.append((int) (characters >>> (8 * i)) & 255);
        }
        return pad.length;
    }

    public int wipe() {
        int length = pad.length;
        pad.length = 0;
        return length;
    }

    public int fault() {
        return reader.findFault();
    }

    public int carryOut() {
        if (reader.findFault() != NONE) {
            return BAD_TEXT;
        }
        history.keepInMind(world);
        reader.at = 0;
        int done = 0;
        while (done < MOST_SIGNS && reader.readOrder() && obey() >= 0) {
            done++;
            reader.readSign(';');
        }
        pad.length = 0;
        return recorded(done);
    }

    // ---- undo, saving

    public int undo() {
        if (history.size == 0) {
            return NOT_POSSIBLE;
        }
        history.takeBack(world);
        return history.size;
    }

    public int save(int slot) {
        if (isOutside(slot, 0, SLOTS - 1)) {
            return BAD_VALUE;
        }
        slots[slot].copyFrom(world);
        saved[slot] = true;
        return world.cartCount;
    }

    public int restore(int slot) {
        if (isOutside(slot, 0, SLOTS - 1)) {
            return BAD_VALUE;
        }
        if (!saved[slot]) {
            return NOT_POSSIBLE;
        }
        history.keepInMind(world);
        world.copyFrom(slots[slot]);
        return recorded(world.cartCount);
    }

    // ---- help

    private static boolean isOutside(int value, int least, int most) {
        return value < least || value > most;
    }

    private static boolean isTown(int town) {
        return !isOutside(town, 0, TOWNS - 1);
    }

    private static int bit(boolean yes) {
        return yes ? 1 : 0;
    }

    private int recorded(int answer) {
        if (answer >= 0) {
            history.record();
        }
        return answer;
    }

    /**
     * Fills honestPrices, and returns how many of them are different. The document lowers the price at the end of
     * the first road that is not honest, again and again. An honest price at a road's end is never below the price at
     * its start, and grows with it; so every order of lowering ends at the same prices, and a price comes to a town
     * over each other town at most once: TOWNS rounds over all roads are enough.
     */
    private int findHonestPrices() {
        System.arraycopy(world.prices, 0, honestPrices, 0, TOWNS);
        for (int round = 0; round < TOWNS; round++) {
            for (int i = 0; i < world.roadCount; i++) {
                Road road = world.roads[i];
                lowerEnd(road, road.town, road.other);
                lowerEnd(road, road.other, road.town);
            }
        }
        int different = 0;
        for (int town = 0; town < TOWNS; town++) {
            different += bit(honestPrices[town] != world.prices[town]);
        }
        return different;
    }

    private void lowerEnd(Road road, int start, int end) {
        honestPrices[end] = Math.min(honestPrices[end], world.mostAtEnd(road, honestPrices[start]));
    }

    private int hidingTowns() {
        int legs = world.settings[LEGS];
        allRoutes.lookAt(world, legs);
        openRoutes.lookAt(world, legs);
        int towns = 0;
        for (int town = 0; town < TOWNS; town++) {
            if (allRoutes.worths[legs][town] > openRoutes.worths[legs][town]) {
                towns |= 1 << town;
            }
        }
        return towns;
    }

    /** Returns how many characters a number for put() holds, 0 if it is not one that put() takes. */
    private static int countSigns(long characters) {
        long rest = characters;
        int signs = 0;
        while (signs < MOST_SIGNS_A_PUT && rest != 0) {
            if (isOutside((int) (rest & 255), 33, 126)) {
                return 0;
            }
            rest >>>= 8;
            signs++;
        }
        return signs;
    }

    /** Does the order that was read last, and records nothing. */
    private int obey() {
        switch (reader.kind) {
            case 'r':
                return world.addRoad(reader.first, reader.second, reader.amount);
            case 'p':
                return world.changePrice(reader.first, reader.amount);
            case 'g':
                return world.changeGuards(reader.first, reader.amount);
            case 'c':
                return world.addCart(reader.first, reader.amount);
            case 'b':
                return world.buySacks(reader.first, reader.amount);
            case 's':
                return world.sellSacks(reader.first, reader.amount);
            case 'o':
                return world.drive(reader.first, reader.amount, 0);
            case 'h':
                return world.drive(reader.first, reader.amount, 1);
            default:
                return BAD_TEXT;
        }
    }

    private static final class Road {
        int town;
        int other;
        int toll;
        int guards;
        int openTrips;
        int hiddenTrips;

        void begin(int newTown, int newOther, int newToll) {
            town = newTown;
            other = newOther;
            toll = newToll;
            guards = 0;
            openTrips = 0;
            hiddenTrips = 0;
        }

        void copyFrom(Road source) {
            town = source.town;
            other = source.other;
            toll = source.toll;
            guards = source.guards;
            openTrips = source.openTrips;
            hiddenTrips = source.hiddenTrips;
        }

        boolean isAt(int place) {
            return town == place || other == place;
        }

        int farFrom(int place) {
            return town == place ? other : town;
        }
    }

    private static final class Cart {
        int town;
        int coins;
        int sacks;
        int spent;
        int earned;
        int tolls;
        int fines;
        int lost;

        void begin(int newTown, int newCoins) {
            town = newTown;
            coins = newCoins;
            sacks = 0;
            spent = 0;
            earned = 0;
            tolls = 0;
            fines = 0;
            lost = 0;
        }

        void copyFrom(Cart source) {
            town = source.town;
            coins = source.coins;
            sacks = source.sacks;
            spent = source.spent;
            earned = source.earned;
            tolls = source.tolls;
            fines = source.fines;
            lost = source.lost;
        }
    }

    /** Everything that undo and the slots keep. A change that answers an error has changed nothing. */
    private static final class World {
        final int[] settings = new int[SETTINGS];
        final int[] prices = new int[TOWNS];
        final Road[] roads = new Road[MOST_ROADS];
        final Cart[] carts = new Cart[MOST_CARTS];
        int roadCount = 0;
        int cartCount = 0;
        int drawn = 1;
        int sacksBought = 0;
        int sacksSold = 0;
        int sacksLost = 0;
        int coinsBrought = 0;

        World() {
            System.arraycopy(FIRST_SETTINGS, 0, settings, 0, SETTINGS);
            for (int town = 0; town < TOWNS; town++) {
                prices[town] = 100;
            }
            for (int road = 0; road < MOST_ROADS; road++) {
                roads[road] = new Road();
            }
            for (int cart = 0; cart < MOST_CARTS; cart++) {
                carts[cart] = new Cart();
            }
        }

        void copyFrom(World source) {
            System.arraycopy(source.settings, 0, settings, 0, SETTINGS);
            System.arraycopy(source.prices, 0, prices, 0, TOWNS);
            for (int road = 0; road < source.roadCount; road++) {
                roads[road].copyFrom(source.roads[road]);
            }
            for (int cart = 0; cart < source.cartCount; cart++) {
                carts[cart].copyFrom(source.carts[cart]);
            }
            roadCount = source.roadCount;
            cartCount = source.cartCount;
            drawn = source.drawn;
            sacksBought = source.sacksBought;
            sacksSold = source.sacksSold;
            sacksLost = source.sacksLost;
            coinsBrought = source.coinsBrought;
        }

        boolean hasRoad(int road) {
            return !isOutside(road, 0, roadCount - 1);
        }

        boolean hasCart(int cart) {
            return !isOutside(cart, 0, cartCount - 1);
        }

        int roadsAt(int town) {
            int set = 0;
            for (int road = 0; road < roadCount; road++) {
                if (roads[road].isAt(town)) {
                    set |= 1 << road;
                }
            }
            return set;
        }

        int cartsAt(int town) {
            int set = 0;
            for (int cart = 0; cart < cartCount; cart++) {
                if (carts[cart].town == town) {
                    set |= 1 << cart;
                }
            }
            return set;
        }

        int guardsAtRoads() {
            int sum = 0;
            for (int road = 0; road < roadCount; road++) {
                sum += roads[road].guards;
            }
            return sum;
        }

        int sacksOfCarts() {
            int sum = 0;
            for (int cart = 0; cart < cartCount; cart++) {
                sum += carts[cart].sacks;
            }
            return sum;
        }

        int coinsOfCarts() {
            int sum = 0;
            for (int cart = 0; cart < cartCount; cart++) {
                sum += carts[cart].coins;
            }
            return sum;
        }

        int chanceWith(int guards) {
            return Math.min(MOST_CHANCE, settings[EYE] * guards);
        }

        int chanceOf(Road road) {
            return chanceWith(road.guards);
        }

        /** The greatest price at a road's end by which hiding does not pay. A chance is at most 90. */
        int mostHidden(int startPrice, int chance) {
            return (100 * startPrice + chance * settings[FINE]) / (100 - chance);
        }

        /** The greatest price at a road's end with which the road is honest. */
        int mostAtEnd(Road road, int startPrice) {
            return Math.min(startPrice + road.toll, mostHidden(startPrice, chanceOf(road)));
        }

        boolean isHonest(Road road, int start) {
            return prices[road.farFrom(start)] <= mostAtEnd(road, prices[start]);
        }

        boolean allHonest() {
            for (int i = 0; i < roadCount; i++) {
                if (!isHonest(roads[i], roads[i].town) || !isHonest(roads[i], roads[i].other)) {
                    return false;
                }
            }
            return true;
        }

        int fineOf(Cart cart) {
            return Math.min(cart.coins, settings[FINE] * cart.sacks);
        }

        int changeSetting(int setting, int value) {
            if (isOutside(setting, 0, SETTINGS - 1)) {
                return BAD_VALUE;
            }
            if (isOutside(value, LEAST_SETTINGS[setting], MOST_SETTINGS[setting])) {
                return BAD_VALUE;
            }
            if (setting == POOL && guardsAtRoads() > value) {
                return NOT_POSSIBLE;
            }
            int previous = settings[setting];
            settings[setting] = value;
            return previous;
        }

        int addRoad(int town, int other, int toll) {
            if (!isTown(town) || !isTown(other)) {
                return NO_SUCH;
            }
            if (town == other || isOutside(toll, 0, MOST_TOLL)) {
                return BAD_VALUE;
            }
            if (roadCount >= MOST_ROADS) {
                return TOO_MANY;
            }
            roads[roadCount].begin(town, other, toll);
            roadCount++;
            return roadCount - 1;
        }

        int changePrice(int town, int price) {
            if (!isTown(town)) {
                return NO_SUCH;
            }
            if (isOutside(price, 1, MOST_PRICE)) {
                return BAD_VALUE;
            }
            int previous = prices[town];
            prices[town] = price;
            return previous;
        }

        int changeGuards(int road, int guards) {
            if (!hasRoad(road)) {
                return NO_SUCH;
            }
            if (isOutside(guards, 0, MOST_GUARDS)) {
                return BAD_VALUE;
            }
            int previous = roads[road].guards;
            if (guardsAtRoads() - previous + guards > settings[POOL]) {
                return NOT_POSSIBLE;
            }
            roads[road].guards = guards;
            return previous;
        }

        int changeToll(int road, int toll) {
            if (!hasRoad(road)) {
                return NO_SUCH;
            }
            if (isOutside(toll, 0, MOST_TOLL)) {
                return BAD_VALUE;
            }
            int previous = roads[road].toll;
            roads[road].toll = toll;
            return previous;
        }

        int addCart(int town, int coins) {
            if (!isTown(town)) {
                return NO_SUCH;
            }
            if (isOutside(coins, 0, MOST_COINS)) {
                return BAD_VALUE;
            }
            if (cartCount >= MOST_CARTS) {
                return TOO_MANY;
            }
            carts[cartCount].begin(town, coins);
            cartCount++;
            coinsBrought += coins;
            return cartCount - 1;
        }

        int buySacks(int cart, int sacks) {
            if (!hasCart(cart)) {
                return NO_SUCH;
            }
            if (isOutside(sacks, 1, MOST_SACKS)) {
                return BAD_VALUE;
            }
            Cart buyer = carts[cart];
            int cost = sacks * prices[buyer.town];
            if (cost > buyer.coins) {
                return NOT_POSSIBLE;
            }
            if (buyer.sacks + sacks > MOST_SACKS) {
                return TOO_MANY;
            }
            buyer.coins -= cost;
            buyer.spent += cost;
            buyer.sacks += sacks;
            sacksBought += sacks;
            return buyer.coins;
        }

        int sellSacks(int cart, int sacks) {
            if (!hasCart(cart)) {
                return NO_SUCH;
            }
            if (isOutside(sacks, 1, MOST_SACKS)) {
                return BAD_VALUE;
            }
            Cart seller = carts[cart];
            if (sacks > seller.sacks) {
                return NOT_POSSIBLE;
            }
            int gain = sacks * prices[seller.town];
            if (seller.coins + gain > MOST_COINS) {
                return TOO_MANY;
            }
            seller.coins += gain;
            seller.earned += gain;
            seller.sacks -= sacks;
            sacksSold += sacks;
            return seller.coins;
        }

        int drive(int cart, int road, int hidden) {
            if (!hasCart(cart) || !hasRoad(road)) {
                return NO_SUCH;
            }
            if (isOutside(hidden, 0, 1)) {
                return BAD_VALUE;
            }
            Cart goer = carts[cart];
            Road way = roads[road];
            if (!way.isAt(goer.town)) {
                return NOT_POSSIBLE;
            }
            if (hidden == 0 && way.toll * goer.sacks > goer.coins) {
                return NOT_POSSIBLE;
            }
            int lost = 0;
            if (hidden == 1) {
                lost = sneak(goer, way);
            } else {
                payToll(goer, way);
            }
            goer.town = way.farFrom(goer.town);
            return lost;
        }

        private void payToll(Cart goer, Road way) {
            int cost = way.toll * goer.sacks;
            goer.coins -= cost;
            goer.tolls += cost;
            way.openTrips++;
        }

        /** Returns how many sacks are lost by hiding. */
        private int sneak(Cart goer, Road way) {
            way.hiddenTrips++;
            if (goer.sacks == 0 || draw() >= chanceOf(way)) {
                return 0;
            }
            int fine = fineOf(goer);
            int lost = goer.sacks;
            goer.coins -= fine;
            goer.fines += fine;
            goer.sacks = 0;
            goer.lost += lost;
            sacksLost += lost;
            return lost;
        }

        private int draw() {
            drawn = (75 * drawn + 74) % 65537;
            return drawn / 4 % 100;
        }
    }

    /** What a sack brings in each town, by all roads or openly alone. */
    private static final class Routes {
        final boolean openAlone;
        /** By the roads left, then by the town. */
        final long[][] worths = new long[MOST_LEGS + 1][TOWNS];
        private final int[] chances = new int[MOST_ROADS];
        private long fine = 0;

        Routes(boolean openAlone) {
            this.openAlone = openAlone;
        }

        /** Finds all worths with 0 to so many roads left (4 at most). */
        void lookAt(World world, int legs) {
            fine = world.settings[FINE];
            for (int i = 0; i < world.roadCount; i++) {
                chances[i] = world.chanceOf(world.roads[i]);
            }
            for (int town = 0; town < TOWNS; town++) {
                worths[0][town] = world.prices[town];
            }
            for (int left = 1; left <= legs; left++) {
                fillRow(world, left);
            }
        }

        private void fillRow(World world, int left) {
            for (int town = 0; town < TOWNS; town++) {
                worths[left][town] = byWaiting(town, left);
            }
            for (int i = 0; i < world.roadCount; i++) {
                Road road = world.roads[i];
                raise(i, road, road.town, left);
                raise(i, road, road.other, left);
            }
        }

        private void raise(int i, Road road, int town, int left) {
            long best = Math.max(worths[left][town], openly(road, town, left));
            if (!openAlone) {
                best = Math.max(best, hiding(i, road, town, left));
            }
            worths[left][town] = best;
        }

        private long byWaiting(int town, int left) {
            return 100 * worths[left - 1][town];
        }

        private long openly(Road road, int town, int left) {
            return 100 * worths[left - 1][road.farFrom(town)] - road.toll * UNITS[left];
        }

        private long hiding(int i, Road road, int town, int left) {
            long carried = (100 - chances[i]) * worths[left - 1][road.farFrom(town)];
            return carried - chances[i] * fine * UNITS[left - 1];
        }

        /** The first road by which a sack brings its worth, NONE if it does without one. Behind lookAt() alone. */
        int firstRoad(World world, int town, int left) {
            long worth = worths[left][town];
            if (worth == byWaiting(town, left)) {
                return NONE;
            }
            for (int i = 0; i < world.roadCount; i++) {
                Road road = world.roads[i];
                if (road.isAt(town) && isBest(i, road, town, left)) {
                    return i;
                }
            }
            return NONE;
        }

        private boolean isBest(int i, Road road, int town, int left) {
            return isBestOpenly(road, town, left) || hiding(i, road, town, left) == worths[left][town];
        }

        boolean isBestOpenly(Road road, int town, int left) {
            return openly(road, town, left) == worths[left][town];
        }
    }

    /** The states before the latest changes, in a ring with one place more than can be undone. */
    private static final class History {
        final World[] ring = new World[MOST_UNDONE + 1];
        int oldest = 0;
        int size = 0;

        History() {
            for (int place = 0; place < ring.length; place++) {
                ring[place] = new World();
            }
        }

        /** Copies a state to the free place; it counts only when record() is called. */
        void keepInMind(World world) {
            ring[placeBehind(size)].copyFrom(world);
        }

        void record() {
            if (size < MOST_UNDONE) {
                size++;
            } else {
                oldest = placeBehind(1);
            }
        }

        /** To be called only if size is not 0. */
        void takeBack(World world) {
            size--;
            world.copyFrom(ring[placeBehind(size)]);
        }

        private int placeBehind(int states) {
            return (oldest + states) % (MOST_UNDONE + 1);
        }
    }

    private static final class Pad {
        final int[] codes = new int[MOST_SIGNS];
        int length = 0;

        /** Returns 0, which is no character's code, outside the text. */
        int codeAt(int place) {
            return isOutside(place, 0, length - 1) ? 0 : codes[place];
        }

        void append(int code) {
            if (length < MOST_SIGNS) {
                codes[length] = code;
                length++;
            }
        }

        /** Appends a number of one to three digits. */
        void appendPrice(int price) {
            if (price >= 100) {
                append('0' + price / 100);
            }
            if (price >= 10) {
                append('0' + price / 10 % 10);
            }
            append('0' + price % 10);
        }
    }

    /** Reads orders from a pad. A function that answers false has stopped at the character that cannot stand there. */
    private static final class Reader {
        final Pad pad;
        int at = 0;
        int kind = 0;
        int first = 0;
        int second = 0;
        int amount = 0;
        private int value = 0;

        Reader(Pad pad) {
            this.pad = pad;
        }

        int findFault() {
            at = 0;
            for (int order = 0; order <= MOST_SIGNS; order++) {
                if (!readOrder()) {
                    return at;
                }
                if (at == pad.length) {
                    return NONE;
                }
                if (!readSign(';')) {
                    return at;
                }
            }
            return at;
        }

        boolean readOrder() {
            kind = pad.codeAt(at);
            int mark = markOf(kind);
            if (mark == 0) {
                return false;
            }
            at++;
            if (!readSubject() || !readSign(mark) || !readNumber()) {
                return false;
            }
            amount = value;
            return true;
        }

        boolean readSign(int code) {
            if (pad.codeAt(at) != code) {
                return false;
            }
            at++;
            return true;
        }

        /** The sign in the middle of an order, 0 if there is no such kind of order. */
        private static int markOf(int kind) {
            switch (kind) {
                case 'r':
                case 'c':
                case 'b':
                case 's':
                    return '*';
                case 'p':
                    return '=';
                case 'g':
                case 'o':
                case 'h':
                    return ':';
                default:
                    return 0;
            }
        }

        private boolean readSubject() {
            if (kind == 'g' ? !readNumber() : !readDigit()) {
                return false;
            }
            first = value;
            if (kind != 'r') {
                return true;
            }
            if (!readDigit()) {
                return false;
            }
            second = value;
            return true;
        }

        private boolean readDigit() {
            if (!isDigit()) {
                return false;
            }
            value = pad.codeAt(at) - '0';
            at++;
            return true;
        }

        /** A digit behind 0 or behind four digits is left, and cannot stand there then. */
        private boolean readNumber() {
            if (!readDigit()) {
                return false;
            }
            int number = value;
            for (int digits = 1; digits < MOST_DIGITS && number > 0 && isDigit(); digits++) {
                readDigit();
                number = 10 * number + value;
            }
            value = number;
            return true;
        }

        private boolean isDigit() {
            return !isOutside(pad.codeAt(at), '0', '9');
        }
    }
}
