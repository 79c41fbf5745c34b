/** Promises 31 to 35: scans and sums. */
public final class ScansTest {
    private static final Check check = new Check();

    public static void main(String[] args) {
        promise31Scans();
        promises32And33EachScan();
        promises32And33WrongNumbers();
        promises31To33MostScans();
        promise34Shipped();
        promise35ShippedShare();
        check.end("ScansTest");
    }

    private static Pickwave oneArticle() {
        Pickwave x = new Pickwave();
        x.addArticle(0, 10, 25, 50);
        return x;
    }

    private static void promise31Scans() {
        Pickwave x = oneArticle();
        check.is("none", x.scans(), 0);
        x.order(0, 4, 0);
        x.order(0, 3, 0);
        check.is("orders came", x.scans(), 2);
        x.wave(0);
        check.is("and were promised", x.scans(), 4);
        x.wave(0);
        x.send(0, 0);
        x.pass(3);
        x.giveBack(0, 1, 1);
        x.setPickers(0, 1);
        x.setCutOff(0, 9);
        check.is("nothing happened to an order", x.scans(), 4);
        x.pick(0, 1);
        check.is("picked, a new one, the other open", x.scans(), 7);
        x.ship(0);
        check.is("shipped", x.scans(), 8);
        x.drop(1);
        check.is("dropped", x.scans(), 9);
    }

    private static void promises32And33EachScan() {
        Pickwave x = oneArticle();
        x.order(0, 4, 0);
        x.order(0, 3, 0);
        x.wave(0);
        x.setBlocked(0, true);
        x.setBlocked(0, false);
        x.wave(0);
        x.pick(0, 1);
        x.ship(0);
        x.drop(1);
        int[] orders = {0, 1, 1, 0, 0, 1, 1, 0, 0, 2, 1, 0, 1};
        char[] signs = {'n', 'n', 'p', 'p', 'u', 'u', 'p', 'p', 'k', 'n', 'u', 's', 'd'};
        check.is("scans()", x.scans(), orders.length);
        for (int i = 0; i < orders.length; i++) {
            check.is("scanOrder(" + i + ")", x.scanOrder(i), orders[i]);
            check.isSign("scanSign(" + i + ")", x.scanSign(i), signs[i]);
        }
    }

    private static void promises32And33WrongNumbers() {
        isNoScan(oneArticle(), 0);
        isNoScan(Planners.orders(1), 1);
        for (int far : Check.FAR_OFF) {
            isNoScan(Planners.orders(1), far);
        }
    }

    private static void isNoScan(Pickwave x, int scan) {
        check.isThrown("scanOrder(" + scan + ")", Check.INDEX, x, () -> x.scanOrder(scan));
        check.isThrown("scanSign(" + scan + ")", Check.INDEX, x, () -> x.scanSign(scan));
    }

    /** No more can be scanned: each wave promises all, and each is taken back. */
    private static void promises31To33MostScans() {
        Pickwave x = new Pickwave();
        x.addArticle(0, 12, 0, 12);
        for (int i = 0; i < 12; i++) {
            x.order(0, 1, 0);
        }
        for (int i = 0; i < 20; i++) {
            check.is("wave", x.wave(0), 12);
            if (i < 19) {
                x.setBlocked(0, true);
                x.setBlocked(0, false);
            }
        }
        for (int i = 0; i < 12; i++) {
            x.pick(i, 1);
        }
        check.is("ship", x.ship(0), 12);
        check.is("scans()", x.scans(), 12 * (1 + 20 + 19 + 1 + 1));
        check.is("the last order", x.scanOrder(x.scans() - 1), 11);
        check.isSign("the last sign", x.scanSign(x.scans() - 1), 's');
        check.isText("states by all scans", Look.statesByScans(x), "ssssssssssss");
    }

    private static void promise34Shipped() {
        Pickwave x = oneArticle();
        check.is("nothing", x.shipped(), 0);
        x.order(0, 4, 0);
        x.order(0, 3, 0);
        x.order(0, 1, 1);
        x.wave(0);
        x.wave(1);
        x.pick(0, 4);
        x.pick(2, 1);
        check.is("picked ones are not", x.shipped(), 0);
        x.ship(0);
        check.is("of the carrier", x.shipped(), 4);
        x.ship(1);
        check.is("of all carriers", x.shipped(), 5);
        x.pick(1, 2);
        x.ship(0);
        check.is("what was found, not what was ordered", x.shipped(), 7);
        x.ship(0);
        check.is("only once", x.shipped(), 7);
    }

    private static void promise35ShippedShare() {
        Pickwave x = oneArticle();
        check.isThrown("no order", Check.NO_ELEMENT, x, () -> x.shippedShare());
        x.order(0, 4, 0);
        check.isShare("none of one", x.shippedShare(), 0f);
        x.wave(0);
        x.pick(0, 4);
        check.isShare("a picked one", x.shippedShare(), 0f);
        x.ship(0);
        check.isShare("one of one", x.shippedShare(), 1f);
        x.order(0, 2, 0);
        x.order(0, 1, 0);
        check.isShare("one of three", x.shippedShare(), 1f / 3f);
        x.drop(2);
        check.isShare("dropped ones are counted", x.shippedShare(), 1f / 3f);
        x.wave(0);
        x.pick(1, 1);
        x.ship(0);
        check.isShare("those by splitting, too", x.shippedShare(), 2f / 4f);
        for (int i = 4; i < 11; i++) {
            x.order(0, 20, 0);
        }
        check.isShare("two of eleven", x.shippedShare(), 2f / 11f);
    }
}
