import java.util.ArrayList;
import java.util.Arrays;
import java.util.List;
import java.util.regex.Matcher;
import java.util.regex.Pattern;

/** The document's words in the plainest way, without regard to speed or room: what ModelTest compares with. */
final class Model {
    static final int NO_SUCH = -1, BAD_VALUE = -2, BAD_TEXT = -3, TOO_MANY = -4, NOT_POSSIBLE = -5, NONE = -6;
    private static final String NUMBER = "(0|[1-9][0-9]{0,3})";
    private static final String ORDER = "(r[0-9][0-9]\\*N|p[0-9]=N|gN:N|c[0-9]\\*N|b[0-9]\\*N|s[0-9]\\*N|[oh][0-9]:N)"
        .replace("N", NUMBER);
    private static final Pattern TEXT = Pattern.compile(ORDER + "(;" + ORDER + ")*");

    private static final class State {
        int[] settings = {20, 10, 3, 12};
        int[] prices = {100, 100, 100, 100, 100, 100, 100, 100};
        /** town, other, toll, guards, openly, hidden */
        List<int[]> roads = new ArrayList<>();
        /** town, coins, sacks, bought for, sold for, tolls, fines, lost */
        List<int[]> carts = new ArrayList<>();
        int x = 1, bought = 0, sold = 0, lost = 0, came = 0;

        State copy() {
            State copy = new State();
            copy.settings = settings.clone();
            copy.prices = prices.clone();
            for (int[] road : roads) {
                copy.roads.add(road.clone());
            }
            for (int[] cart : carts) {
                copy.carts.add(cart.clone());
            }
            copy.x = x;
            copy.bought = bought;
            copy.sold = sold;
            copy.lost = lost;
            copy.came = came;
            return copy;
        }
    }

    private State now = new State();
    private final List<State> history = new ArrayList<>();
    private final State[] slots = new State[2];
    private String pad = "";

    private int change(State before, int answer) {
        if (answer >= 0) {
            history.add(before);
            if (history.size() > 6) {
                history.remove(0);
            }
        }
        return answer;
    }

    private boolean noTown(int town) {
        return town < 0 || town > 7;
    }

    private boolean noRoad(int road) {
        return road < 0 || road >= now.roads.size();
    }

    private boolean noCart(int cart) {
        return cart < 0 || cart >= now.carts.size();
    }

    private int chance(int guards) {
        return Math.min(90, now.settings[1] * guards);
    }

    int set(int setting, int value) {
        State before = now.copy();
        int[] least = {0, 1, 1, 0};
        int[] most = {500, 30, 4, 40};
        if (setting < 0 || setting > 3 || value < least[setting] || value > most[setting]) {
            return BAD_VALUE;
        }
        if (setting == 3 && guards() > value) {
            return NOT_POSSIBLE;
        }
        int previous = now.settings[setting];
        now.settings[setting] = value;
        return change(before, previous);
    }

    private int guards() {
        int sum = 0;
        for (int[] road : now.roads) {
            sum += road[3];
        }
        return sum;
    }

    int road(int town, int other, int toll) {
        State before = now.copy();
        return change(before, doRoad(town, other, toll));
    }

    private int doRoad(int town, int other, int toll) {
        if (noTown(town) || noTown(other)) {
            return NO_SUCH;
        }
        if (town == other || toll < 0 || toll > 200) {
            return BAD_VALUE;
        }
        if (now.roads.size() == 14) {
            return TOO_MANY;
        }
        now.roads.add(new int[] {town, other, toll, 0, 0, 0});
        return now.roads.size() - 1;
    }

    int price(int town, int price) {
        State before = now.copy();
        return change(before, doPrice(town, price));
    }

    private int doPrice(int town, int price) {
        if (noTown(town)) {
            return NO_SUCH;
        }
        if (price < 1 || price > 999) {
            return BAD_VALUE;
        }
        int previous = now.prices[town];
        now.prices[town] = price;
        return previous;
    }

    int guard(int road, int guards) {
        State before = now.copy();
        return change(before, doGuard(road, guards));
    }

    private int doGuard(int road, int guards) {
        if (noRoad(road)) {
            return NO_SUCH;
        }
        if (guards < 0 || guards > 40) {
            return BAD_VALUE;
        }
        int previous = now.roads.get(road)[3];
        now.roads.get(road)[3] = guards;
        if (guards() > now.settings[3]) {
            now.roads.get(road)[3] = previous;
            return NOT_POSSIBLE;
        }
        return previous;
    }

    int toll(int road, int toll) {
        State before = now.copy();
        if (noRoad(road)) {
            return NO_SUCH;
        }
        if (toll < 0 || toll > 200) {
            return BAD_VALUE;
        }
        int previous = now.roads.get(road)[2];
        now.roads.get(road)[2] = toll;
        return change(before, previous);
    }

    private boolean honest(int[] prices, int p, int q, int toll, int chance) {
        return 100 * q <= 100 * (p + toll) && hidingIsHonest(p, q, chance);
    }

    private boolean hidingIsHonest(int p, int q, int chance) {
        return (100 - chance) * q - chance * now.settings[0] <= 100 * p;
    }

    private boolean lowerFirst(int[] prices) {
        for (int[] road : now.roads) {
            for (int way = 0; way < 2; way++) {
                int p = prices[road[way]];
                int end = road[1 - way];
                if (!honest(prices, p, prices[end], road[2], chance(road[3]))) {
                    int q = 999;
                    while (!honest(prices, p, q, road[2], chance(road[3]))) {
                        q--;
                    }
                    prices[end] = q;
                    return true;
                }
            }
        }
        return false;
    }

    private int[] honestPrices() {
        int[] prices = now.prices.clone();
        while (lowerFirst(prices)) {
            continue;
        }
        return prices;
    }

    int ifHonest() {
        int[] prices = honestPrices();
        int different = 0;
        for (int town = 0; town < 8; town++) {
            different += prices[town] == now.prices[town] ? 0 : 1;
        }
        return different;
    }

    int makeHonest() {
        State before = now.copy();
        int different = ifHonest();
        now.prices = honestPrices();
        return change(before, different);
    }

    int cart(int town, int coins) {
        State before = now.copy();
        return change(before, doCart(town, coins));
    }

    private int doCart(int town, int coins) {
        if (noTown(town)) {
            return NO_SUCH;
        }
        if (coins < 0 || coins > 99999) {
            return BAD_VALUE;
        }
        if (now.carts.size() == 6) {
            return TOO_MANY;
        }
        now.carts.add(new int[] {town, coins, 0, 0, 0, 0, 0, 0});
        now.came += coins;
        return now.carts.size() - 1;
    }

    int buy(int cart, int sacks) {
        State before = now.copy();
        return change(before, doBuy(cart, sacks));
    }

    private int doBuy(int cart, int sacks) {
        if (noCart(cart)) {
            return NO_SUCH;
        }
        if (sacks < 1 || sacks > 99) {
            return BAD_VALUE;
        }
        int[] c = now.carts.get(cart);
        int price = now.prices[c[0]];
        if (c[1] < sacks * price) {
            return NOT_POSSIBLE;
        }
        if (c[2] + sacks > 99) {
            return TOO_MANY;
        }
        c[1] -= sacks * price;
        c[2] += sacks;
        c[3] += sacks * price;
        now.bought += sacks;
        return c[1];
    }

    int sell(int cart, int sacks) {
        State before = now.copy();
        return change(before, doSell(cart, sacks));
    }

    private int doSell(int cart, int sacks) {
        if (noCart(cart)) {
            return NO_SUCH;
        }
        if (sacks < 1 || sacks > 99) {
            return BAD_VALUE;
        }
        int[] c = now.carts.get(cart);
        int price = now.prices[c[0]];
        if (c[2] < sacks) {
            return NOT_POSSIBLE;
        }
        if (c[1] + sacks * price > 99999) {
            return TOO_MANY;
        }
        c[1] += sacks * price;
        c[2] -= sacks;
        c[4] += sacks * price;
        now.sold += sacks;
        return c[1];
    }

    int go(int cart, int road, int hidden) {
        State before = now.copy();
        return change(before, doGo(cart, road, hidden));
    }

    private int doGo(int cart, int road, int hidden) {
        if (noCart(cart) || noRoad(road)) {
            return NO_SUCH;
        }
        if (hidden != 0 && hidden != 1) {
            return BAD_VALUE;
        }
        int[] c = now.carts.get(cart);
        int[] r = now.roads.get(road);
        if (r[0] != c[0] && r[1] != c[0]) {
            return NOT_POSSIBLE;
        }
        if (hidden == 0 && c[1] < c[2] * r[2]) {
            return NOT_POSSIBLE;
        }
        int lost = 0;
        if (hidden == 0) {
            c[5] += c[2] * r[2];
            c[1] -= c[2] * r[2];
        } else if (c[2] > 0) {
            now.x = (75 * now.x + 74) % 65537;
            if (now.x / 4 % 100 < chance(r[3])) {
                lost = c[2];
                int fine = Math.min(c[1], lost * now.settings[0]);
                c[1] -= fine;
                c[6] += fine;
                c[7] += lost;
                c[2] = 0;
                now.lost += lost;
            }
        }
        r[4 + hidden]++;
        c[0] = r[0] == c[0] ? r[1] : r[0];
        return lost;
    }

    int write() {
        StringBuilder text = new StringBuilder();
        for (int price : now.prices) {
            text.append(text.length() == 0 ? "" : "/").append(price);
        }
        pad = text.toString();
        return pad.length();
    }

    int ofTown(int town, int what) {
        if (noTown(town)) {
            return NO_SUCH;
        }
        switch (what) {
            case 0:
                return now.prices[town];
            case 1:
                return roadsOf(town);
            case 2:
                return cartsOf(town);
            case 3:
                return hidingPays(town) ? 1 : 0;
            default:
                return BAD_VALUE;
        }
    }

    private int roadsOf(int town) {
        int set = 0;
        for (int i = 0; i < now.roads.size(); i++) {
            set += now.roads.get(i)[0] == town || now.roads.get(i)[1] == town ? 1 << i : 0;
        }
        return set;
    }

    private int cartsOf(int town) {
        int set = 0;
        for (int i = 0; i < now.carts.size(); i++) {
            set += now.carts.get(i)[0] == town ? 1 << i : 0;
        }
        return set;
    }

    private boolean hidingPays(int town) {
        return brings(town, now.settings[2], false) > brings(town, now.settings[2], true);
    }

    private static long power(int k) {
        return k == 0 ? 1 : 100 * power(k - 1);
    }

    private long brings(int town, int k, boolean open) {
        if (k == 0) {
            return now.prices[town];
        }
        long best = 100 * brings(town, k - 1, open);
        for (int[] road : now.roads) {
            if (road[0] == town || road[1] == town) {
                best = Math.max(best, openly(road, town, k, open));
                best = open ? best : Math.max(best, hidden(road, town, k));
            }
        }
        return best;
    }

    private long openly(int[] road, int town, int k, boolean open) {
        return 100 * brings(road[0] + road[1] - town, k - 1, open) - road[2] * power(k);
    }

    private long hidden(int[] road, int town, int k) {
        int chance = chance(road[3]);
        return (100 - chance) * brings(road[0] + road[1] - town, k - 1, false)
            - chance * now.settings[0] * power(k - 1);
    }

    int ofRoad(int road, int what) {
        if (noRoad(road)) {
            return NO_SUCH;
        }
        int[] r = now.roads.get(road);
        if (what < 0 || what > 8) {
            return BAD_VALUE;
        }
        if (what < 4) {
            return r[what];
        }
        if (what == 4) {
            return chance(r[3]);
        }
        if (what < 7) {
            int p = now.prices[r[what - 5]];
            int q = now.prices[r[6 - what]];
            return honest(now.prices, p, q, r[2], chance(r[3])) ? 1 : 0;
        }
        return r[what - 3];
    }

    int ofCart(int cart, int what) {
        if (noCart(cart)) {
            return NO_SUCH;
        }
        return what < 0 || what > 7 ? BAD_VALUE : now.carts.get(cart)[what];
    }

    long worth(int town, int legs, int open) {
        if (noTown(town)) {
            return NO_SUCH;
        }
        if (legs < 0 || legs > 4 || open < 0 || open > 1) {
            return BAD_VALUE;
        }
        return brings(town, legs, open == 1);
    }

    int sign(int place) {
        return place < 0 || place >= pad.length() ? NO_SUCH : pad.charAt(place);
    }

    int count(int what) {
        switch (what) {
            case 0:
                return now.roads.size();
            case 1:
                return now.carts.size();
            case 2:
                return guards();
            case 3:
                return now.carts.stream().mapToInt(c -> c[2]).sum();
            case 4:
                return now.bought;
            case 5:
                return now.sold;
            case 6:
                return now.lost;
            case 7:
                return lowerFirst(now.prices.clone()) ? 0 : 1;
            case 8:
                return hidingSet();
            case 9:
                return now.carts.stream().mapToInt(c -> c[1]).sum();
            case 10:
                return now.came;
            case 11:
                return now.x;
            case 16:
                return pad.length();
            case 17:
                return history.size();
            default:
                return what >= 12 && what <= 15 ? now.settings[what - 12] : BAD_VALUE;
        }
    }

    private int hidingSet() {
        int set = 0;
        for (int town = 0; town < 8; town++) {
            set += hidingPays(town) ? 1 << town : 0;
        }
        return set;
    }

    int step(int town, int what) {
        if (noTown(town)) {
            return NO_SUCH;
        }
        if (what != 0 && what != 1) {
            return BAD_VALUE;
        }
        int k = now.settings[2];
        long worth = brings(town, k, false);
        if (100 * brings(town, k - 1, false) == worth) {
            return what == 0 ? NONE : 0;
        }
        for (int i = 0; i < now.roads.size(); i++) {
            int[] road = now.roads.get(i);
            if (road[0] == town || road[1] == town) {
                if (openly(road, town, k, false) == worth) {
                    return what == 0 ? i : 0;
                }
                if (hidden(road, town, k) == worth) {
                    return what == 0 ? i : 1;
                }
            }
        }
        return Integer.MIN_VALUE;
    }

    int fewestGuards(int road) {
        if (noRoad(road)) {
            return NO_SUCH;
        }
        int p = now.prices[now.roads.get(road)[0]];
        int q = now.prices[now.roads.get(road)[1]];
        for (int guards = 0; guards <= 40; guards++) {
            if (hidingIsHonest(p, q, chance(guards)) && hidingIsHonest(q, p, chance(guards))) {
                return guards;
            }
        }
        return NONE;
    }

    int mostPrice(int town) {
        if (noTown(town)) {
            return NO_SUCH;
        }
        for (int price = 999; price > 1; price--) {
            boolean all = true;
            for (int[] road : now.roads) {
                if (road[0] == town || road[1] == town) {
                    int p = now.prices[road[0] + road[1] - town];
                    all &= honest(now.prices, p, price, road[2], chance(road[3]));
                }
            }
            if (all) {
                return price;
            }
        }
        return 1;
    }

    int wouldHave(int cart, int road, int found) {
        if (noCart(cart) || noRoad(road)) {
            return NO_SUCH;
        }
        if (found != 0 && found != 1) {
            return BAD_VALUE;
        }
        int[] c = now.carts.get(cart);
        int[] r = now.roads.get(road);
        if (r[0] != c[0] && r[1] != c[0]) {
            return NOT_POSSIBLE;
        }
        return found == 1 ? Math.max(0, c[1] - c[2] * now.settings[0])
            : c[1] + c[2] * now.prices[r[0] + r[1] - c[0]];
    }

    int put(long characters) {
        StringBuilder text = new StringBuilder();
        boolean ended = false;
        for (int i = 0; i < 8; i++) {
            int code = (int) ((characters >> (8 * i)) & 255);
            if (code == 0) {
                ended = true;
            } else if (ended || code < 33 || code > 126) {
                return BAD_VALUE;
            } else {
                text.insert(0, (char) code);
            }
        }
        if (text.length() == 0) {
            return BAD_VALUE;
        }
        if (pad.length() + text.length() > 80) {
            return TOO_MANY;
        }
        pad += text;
        return pad.length();
    }

    int wipe() {
        int length = pad.length();
        pad = "";
        return length;
    }

    /** A text can go on as long as the matcher's failure would change with more characters. */
    private static boolean canStand(String start) {
        Matcher matcher = TEXT.matcher(start);
        return matcher.matches() || matcher.hitEnd();
    }

    static int faultOf(String text) {
        for (int i = 0; i < text.length(); i++) {
            if (!canStand(text.substring(0, i + 1))) {
                return i;
            }
        }
        return TEXT.matcher(text).matches() ? NONE : text.length();
    }

    int fault() {
        return faultOf(pad);
    }

    int carryOut() {
        if (fault() != NONE) {
            return BAD_TEXT;
        }
        State before = now.copy();
        int done = 0;
        for (String order : pad.split(";")) {
            if (obey(order) < 0) {
                break;
            }
            done++;
        }
        pad = "";
        return change(before, done);
    }

    private int obey(String order) {
        int[] numbers = Arrays.stream(order.substring(1).split("[*=:]")).mapToInt(Integer::parseInt).toArray();
        switch (order.charAt(0)) {
            case 'r':
                return doRoad(numbers[0] / 10, numbers[0] % 10, numbers[1]);
            case 'p':
                return doPrice(numbers[0], numbers[1]);
            case 'g':
                return doGuard(numbers[0], numbers[1]);
            case 'c':
                return doCart(numbers[0], numbers[1]);
            case 'b':
                return doBuy(numbers[0], numbers[1]);
            case 's':
                return doSell(numbers[0], numbers[1]);
            default:
                return doGo(numbers[0], numbers[1], order.charAt(0) == 'h' ? 1 : 0);
        }
    }

    int undo() {
        if (history.isEmpty()) {
            return NOT_POSSIBLE;
        }
        now = history.remove(history.size() - 1);
        return history.size();
    }

    int save(int slot) {
        if (slot != 0 && slot != 1) {
            return BAD_VALUE;
        }
        slots[slot] = now.copy();
        return now.carts.size();
    }

    int restore(int slot) {
        if (slot != 0 && slot != 1) {
            return BAD_VALUE;
        }
        if (slots[slot] == null) {
            return NOT_POSSIBLE;
        }
        State before = now;
        now = slots[slot].copy();
        return change(before, now.carts.size());
    }
}
