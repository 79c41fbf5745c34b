/** The answers that README.md shows, call by call. */
public final class ReadmeTest {
    private static final Check check = new Check();

    public static void main(String[] args) {
        Pickwave planner = new Pickwave();
        promisePickShip(planner);
        split(planner);
        robotsAndReturns(planner);
        blockedAisle(planner);
        check.end("ReadmeTest");
    }

    private static void promisePickShip(Pickwave planner) {
        check.is("addArticle", planner.addArticle(0, 10, 25, 12), 0);
        check.is("order", planner.order(0, 4, 0), 0);
        check.is("wave", planner.wave(0), 1);
        check.is("free", planner.free(0), 6);
        check.is("pick", planner.pick(0, 4), -1);
        check.is("ship", planner.ship(0), 1);
        check.isSign("state", planner.state(0), 's');
        check.isShare("shippedShare", planner.shippedShare(), 1.0f);
    }

    private static void split(Pickwave planner) {
        check.is("order", planner.order(0, 3, 0), 1);
        check.is("wave", planner.wave(0), 1);
        check.is("pick", planner.pick(1, 1), 2);
        check.isSign("state", planner.state(1), 'k');
        check.isSign("state", planner.state(2), 'o');
        check.is("stock", planner.stock(0), 0);
    }

    private static void robotsAndReturns(Pickwave planner) {
        check.is("send", planner.send(0, 0), 3);
        check.is("carried", planner.carried(0), 10);
        check.is("pass", planner.pass(3), 10);
        check.is("giveBack", planner.giveBack(0, 5, 1), 2);
        check.is("reserve", planner.reserve(0), 18);
        check.is("writtenOff", planner.writtenOff(), 1);
    }

    private static void blockedAisle(Pickwave planner) {
        check.is("wave", planner.wave(0), 1);
        check.isTrue("setBlocked", !planner.setBlocked(0, true));
        check.isSign("state", planner.state(2), 'o');
        check.is("scans", planner.scans(), 10);
        check.is("scanOrder", planner.scanOrder(9), 2);
        check.isSign("scanSign", planner.scanSign(9), 'u');
    }
}
