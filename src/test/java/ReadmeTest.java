import java.io.IOException;
import java.nio.file.Files;
import java.nio.file.Path;

/** The examples of README.md, call for call: it tells each of them with the answer that is given. From the root. */
public final class ReadmeTest {
    private static final Path README = Path.of("README.md");
    private static final Check check = new Check();
    private final String[] lines;
    private int next = 0;

    private ReadmeTest() throws IOException {
        lines = Files.readString(README).split("\n");
    }

    public static void main(String[] args) throws IOException {
        ReadmeTest readme = new ReadmeTest();
        readme.trade();
        readme.orders();
        readme.nothingIsLeft();
        check.end();
    }

    /** Each call has to be the next one that README.md tells, so that none of them is passed by. */
    private void told(String call, long answer) {
        while (next < lines.length && !isCall(lines[next])) {
            next++;
        }
        String line = next < lines.length ? lines[next] : "";
        next++;
        boolean same = line.startsWith(call + ";") && line.contains(" // " + answer + ":");
        check.due("README.md tells " + call + " with " + answer, same ? 1 : 0, 1);
    }

    private static boolean isCall(String line) {
        return line.contains("; ") && line.contains(" // ");
    }

    private void trade() {
        check.begin("README.md, trade");
        SaltPrices prices = new SaltPrices();
        int road = prices.road(0, 1, 20);
        told("int road = prices.road(0, 1, 20)", road);
        told("prices.price(1, 150)", prices.price(1, 150));
        int cart = prices.cart(0, 1000);
        told("int cart = prices.cart(0, 1000)", cart);
        told("prices.buy(cart, 5)", prices.buy(cart, 5));
        told("prices.worth(0, 1, 0)", prices.worth(0, 1, 0));
        told("prices.worth(0, 1, 1)", prices.worth(0, 1, 1));
        told("prices.set(SaltPrices.LEGS, 1)", prices.set(SaltPrices.LEGS, 1));
        told("prices.step(0, 0)", prices.step(0, 0));
        told("prices.step(0, 1)", prices.step(0, 1));
        told("prices.fewestGuards(road)", prices.fewestGuards(road));
        told("prices.go(cart, road, 1)", prices.go(cart, road, 1));
        told("prices.makeHonest()", prices.makeHonest());
        told("prices.ofTown(1, 0)", prices.ofTown(1, 0));
        told("prices.undo()", prices.undo());
        told("prices.save(0)", prices.save(0));
        told("prices.price(1, 0)", prices.price(1, 0));
    }

    private void orders() {
        check.begin("README.md, orders");
        SaltPrices prices = new SaltPrices();
        told("prices.put(0x723031_2a3230L)", prices.put(0x723031_2a3230L));
        told("prices.put(0x3b_70313d313530L)", prices.put(0x3b_70313d313530L));
        told("prices.fault()", prices.fault());
        told("prices.carryOut()", prices.carryOut());
        told("prices.write()", prices.write());
        told("prices.sign(4)", prices.sign(4));
        check.due("the list of prices is told", Check.padOf(prices).equals("100/150/100/100/100/100/100/100") ? 1 : 0, 1);
    }

    private void nothingIsLeft() {
        check.begin("README.md, the end");
        for (; next < lines.length; next++) {
            if (isCall(lines[next])) {
                check.fail("not tried: " + lines[next]);
            }
        }
    }
}
