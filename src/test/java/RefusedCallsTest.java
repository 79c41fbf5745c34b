import java.util.function.Consumer;
import java.util.function.Supplier;

/**
 * "A method that throws an exception changes nothing": each exception of each call, on planners in the midst
 * of work. A twin that never got the call must read the same, and answer the same from then on.
 */
public final class RefusedCallsTest {
    private static final Check check = new Check();

    public static void main(String[] args) {
        twinsAreAlike();
        addArticle();
        articleReadings();
        setBlocked();
        setPickers();
        giveBack();
        giveBackToAFullReserve();
        order();
        drop();
        orderReadings();
        pick();
        pickThatWouldSplit();
        ship();
        setCutOff();
        wave();
        waveReadings();
        send();
        robotReadings();
        pass();
        scanReadings();
        shippedShare();
        check.end("RefusedCallsTest");
    }

    private static void isRefused(Class<? extends RuntimeException> due, Supplier<Pickwave> maker,
            Consumer<Pickwave> call) {
        check.isText("what it reads", Look.at(refusing(due, maker, call)), Look.at(maker.get()));
        check.isText("what comes after", After.of(refusing(due, maker, call)), After.of(maker.get()));
    }

    private static Pickwave refusing(Class<? extends RuntimeException> due, Supplier<Pickwave> maker,
            Consumer<Pickwave> call) {
        Pickwave x = maker.get();
        check.isThrownUnseen("a call", due, () -> call.accept(x));
        return x;
    }

    private static void changes(Consumer<Pickwave> call) {
        Pickwave x = Planners.busy();
        call.accept(x);
        check.isTrue("what comes after is the same", !After.of(x).equals(After.of(Planners.busy())));
    }

    /** Each thing that a call can change shows in what comes after, or the other tests would see nothing. */
    private static void twinsAreAlike() {
        check.isText("twins", After.of(Planners.busy()), After.of(Planners.busy()));
        changes(x -> x.addArticle(0, 0, 0, 1));
        changes(x -> x.setBlocked(1, true));
        changes(x -> x.setBlocked(3, false));
        changes(x -> x.setPickers(2, 1));
        changes(x -> x.giveBack(0, 1, 0));
        changes(x -> x.giveBack(0, 0, 1));
        changes(x -> x.order(0, 1, 0));
        changes(x -> x.drop(5));
        changes(x -> x.pick(3, 3));
        changes(x -> x.ship(0));
        changes(x -> x.setCutOff(2, 4));
        changes(x -> x.wave(1));
        changes(x -> x.send(1, 0));
        changes(x -> x.pass(1));
    }

    private static void addArticle() {
        Class<? extends RuntimeException> due = Check.ARGUMENT;
        isRefused(due, Planners::busy, x -> x.addArticle(-1, 1, 1, 5));
        isRefused(due, Planners::busy, x -> x.addArticle(4, 1, 1, 5));
        isRefused(due, Planners::busy, x -> x.addArticle(0, 0, 1, 0));
        isRefused(due, Planners::busy, x -> x.addArticle(0, 1, 1, 100));
        isRefused(due, Planners::busy, x -> x.addArticle(0, -1, 1, 5));
        isRefused(due, Planners::busy, x -> x.addArticle(0, 6, 1, 5));
        isRefused(due, Planners::busy, x -> x.addArticle(0, 1, -1, 5));
        isRefused(due, Planners::busy, x -> x.addArticle(0, 1, 1000, 5));
        isRefused(Check.STATE, Planners::busyWithSixArticles, x -> x.addArticle(0, 1, 1, 5));
    }

    private static void articleReadings() {
        for (int i : new int[] {-1, 4}) {
            int article = i;
            isRefused(Check.INDEX, Planners::busy, x -> x.stock(article));
            isRefused(Check.INDEX, Planners::busy, x -> x.reserve(article));
            isRefused(Check.INDEX, Planners::busy, x -> x.free(article));
            isRefused(Check.INDEX, Planners::busy, x -> x.promised(article));
            isRefused(Check.INDEX, Planners::busy, x -> x.promisedByScans(article));
        }
    }

    private static void setBlocked() {
        isRefused(Check.INDEX, Planners::busy, x -> x.setBlocked(-1, true));
        isRefused(Check.INDEX, Planners::busy, x -> x.setBlocked(4, true));
        isRefused(Check.INDEX, Planners::busy, x -> x.setBlocked(-1, false));
        isRefused(Check.INDEX, Planners::busy, x -> x.setBlocked(4, false));
    }

    private static void setPickers() {
        isRefused(Check.INDEX, Planners::busy, x -> x.setPickers(-1, 5));
        isRefused(Check.INDEX, Planners::busy, x -> x.setPickers(4, 5));
        isRefused(Check.ARGUMENT, Planners::busy, x -> x.setPickers(0, -1));
        isRefused(Check.ARGUMENT, Planners::busy, x -> x.setPickers(0, 10));
    }

    private static void giveBack() {
        isRefused(Check.INDEX, Planners::busy, x -> x.giveBack(-1, 5, 5));
        isRefused(Check.INDEX, Planners::busy, x -> x.giveBack(4, 5, 5));
        isRefused(Check.ARGUMENT, Planners::busy, x -> x.giveBack(0, -1, 5));
        isRefused(Check.ARGUMENT, Planners::busy, x -> x.giveBack(0, 21, 5));
        isRefused(Check.ARGUMENT, Planners::busy, x -> x.giveBack(0, 5, -1));
        isRefused(Check.ARGUMENT, Planners::busy, x -> x.giveBack(0, 5, 21));
        isRefused(Check.ARGUMENT, Planners::busy, x -> x.giveBack(0, 0, 0));
    }

    /** The shelf and what is written off would change, were they changed ahead of the reserve. */
    private static void giveBackToAFullReserve() {
        Pickwave x = Planners.fullReserve();
        x.order(0, 5, 0);
        x.wave(0);
        x.pick(0, 5);
        check.isThrownUnseen("6 good ones to a room of 5", Check.STATE, () -> x.giveBack(0, 6, 7));
        check.is("stock", x.stock(0), 25);
        check.is("free", x.free(0), 25);
        check.is("reserve", x.reserve(0), 9999);
        check.is("writtenOff", x.writtenOff(), 0);
        check.is("5 good ones", x.giveBack(0, 5, 7), 5);
        check.is("writtenOff", x.writtenOff(), 7);
    }

    private static void order() {
        isRefused(Check.INDEX, Planners::busy, x -> x.order(-1, 1, 0));
        isRefused(Check.INDEX, Planners::busy, x -> x.order(4, 1, 0));
        isRefused(Check.ARGUMENT, Planners::busy, x -> x.order(0, 0, 0));
        isRefused(Check.ARGUMENT, Planners::busy, x -> x.order(0, 21, 0));
        isRefused(Check.ARGUMENT, Planners::busy, x -> x.order(0, 1, -1));
        isRefused(Check.ARGUMENT, Planners::busy, x -> x.order(0, 1, 3));
        isRefused(Check.STATE, Planners::busyWithTwelveOrders, x -> x.order(0, 1, 0));
    }

    private static void drop() {
        isRefused(Check.INDEX, Planners::busy, x -> x.drop(-1));
        isRefused(Check.INDEX, Planners::busy, x -> x.drop(6));
        isRefused(Check.STATE, Planners::busy, x -> x.drop(0));
        isRefused(Check.STATE, Planners::busy, x -> x.drop(1));
        isRefused(Check.STATE, Planners::busy, x -> x.drop(2));
    }

    private static void orderReadings() {
        for (int i : new int[] {-1, 6}) {
            int order = i;
            isRefused(Check.INDEX, Planners::busy, x -> x.state(order));
            isRefused(Check.INDEX, Planners::busy, x -> x.stateByScans(order));
            isRefused(Check.INDEX, Planners::busy, x -> x.amount(order));
        }
    }

    private static void pick() {
        isRefused(Check.INDEX, Planners::busy, x -> x.pick(-1, 1));
        isRefused(Check.INDEX, Planners::busy, x -> x.pick(6, 1));
        isRefused(Check.ARGUMENT, Planners::busy, x -> x.pick(3, -1));
        isRefused(Check.ARGUMENT, Planners::busy, x -> x.pick(3, 4));
        isRefused(Check.UNSUPPORTED, Planners::busy, x -> x.pick(4, 2));
        isRefused(Check.UNSUPPORTED, Planners::busy, x -> x.pick(4, 1));
        isRefused(Check.STATE, Planners::busy, x -> x.pick(0, 4));
        isRefused(Check.STATE, Planners::busy, x -> x.pick(1, 6));
        isRefused(Check.STATE, Planners::busy, x -> x.pick(2, 5));
        isRefused(Check.STATE, Planners::busy, x -> x.pick(5, 7));
        isRefused(Check.STATE, Planners::busy, x -> x.pick(5, 0));
    }

    private static void pickThatWouldSplit() {
        isRefused(Check.STATE, Planners::busyWithTwelveOrders, x -> x.pick(3, 2));
        isRefused(Check.STATE, Planners::busyWithTwelveOrders, x -> x.pick(3, 0));
    }

    private static void ship() {
        isRefused(Check.INDEX, Planners::busy, x -> x.ship(-1));
        isRefused(Check.INDEX, Planners::busy, x -> x.ship(3));
    }

    private static void setCutOff() {
        isRefused(Check.INDEX, Planners::busy, x -> x.setCutOff(-1, 7));
        isRefused(Check.INDEX, Planners::busy, x -> x.setCutOff(3, 7));
        isRefused(Check.ARGUMENT, Planners::busy, x -> x.setCutOff(0, -1));
        isRefused(Check.ARGUMENT, Planners::busy, x -> x.setCutOff(0, 1440));
    }

    private static void wave() {
        isRefused(Check.INDEX, Planners::busy, x -> x.wave(-1));
        isRefused(Check.INDEX, Planners::busy, x -> x.wave(3));
        isRefused(Check.UNSUPPORTED, Planners::busy, x -> x.wave(2));
        isRefused(Check.STATE, RefusedCallsTest::openOrderBehindTwentyWaves, x -> x.wave(1));
    }

    /** It could be promised, were there a 21st wave. */
    private static Pickwave openOrderBehindTwentyWaves() {
        Pickwave x = Planners.busyWithTwentyWaves();
        x.order(0, 1, 1);
        return x;
    }

    private static void waveReadings() {
        isRefused(Check.INDEX, Planners::busy, x -> x.waveOf(-1));
        isRefused(Check.INDEX, Planners::busy, x -> x.waveOf(6));
        isRefused(Check.NO_ELEMENT, Planners::busy, x -> x.waveOf(5));
        isRefused(Check.INDEX, Planners::busy, x -> x.minutesLeft(-1));
        isRefused(Check.INDEX, Planners::busy, x -> x.minutesLeft(3));
    }

    private static void send() {
        isRefused(Check.INDEX, Planners::busy, x -> x.send(-1, 0));
        isRefused(Check.INDEX, Planners::busy, x -> x.send(2, 0));
        isRefused(Check.INDEX, Planners::busy, x -> x.send(1, -1));
        isRefused(Check.INDEX, Planners::busy, x -> x.send(1, 4));
        isRefused(Check.UNSUPPORTED, Planners::busy, x -> x.send(1, 3));
        isRefused(Check.STATE, Planners::busy, x -> x.send(0, 0));
        isRefused(Check.NO_ELEMENT, Planners::busy, x -> x.send(1, 1));
        isRefused(Check.NO_ELEMENT, Planners::busy, x -> x.send(1, 2));
    }

    private static void robotReadings() {
        for (int i : new int[] {-1, 2}) {
            int robot = i;
            isRefused(Check.INDEX, Planners::busy, x -> x.carried(robot));
            isRefused(Check.INDEX, Planners::busy, x -> x.minutesOf(robot));
            isRefused(Check.INDEX, Planners::busy, x -> x.aisleOf(robot));
        }
        isRefused(Check.NO_ELEMENT, Planners::busy, x -> x.aisleOf(1));
    }

    private static void pass() {
        isRefused(Check.ARGUMENT, Planners::busy, x -> x.pass(-1));
        isRefused(Check.ARGUMENT, Planners::busy, x -> x.pass(0));
        isRefused(Check.ARGUMENT, Planners::busy, x -> x.pass(61));
        isRefused(Check.ARGUMENT, Planners::busyAtTheLastMinute, x -> x.pass(1));
        isRefused(Check.ARGUMENT, RefusedCallsTest::robotOnItsWayAtMinute1436, x -> x.pass(4));
    }

    /** It would come to its shelf in the last minute, ahead of the one that is too much. */
    private static Pickwave robotOnItsWayAtMinute1436() {
        Pickwave x = Planners.atMinute(1436);
        x.send(0, 0);
        return x;
    }

    private static void scanReadings() {
        for (int i : new int[] {-1, 1000}) {
            int scan = i;
            isRefused(Check.INDEX, Planners::busy, x -> x.scanOrder(scan));
            isRefused(Check.INDEX, Planners::busy, x -> x.scanSign(scan));
        }
        isRefused(Check.INDEX, Planners::busy, x -> x.scanOrder(x.scans()));
        isRefused(Check.INDEX, Planners::busy, x -> x.scanSign(x.scans()));
    }

    private static void shippedShare() {
        isRefused(Check.NO_ELEMENT, Pickwave::new, x -> x.shippedShare());
        isRefused(Check.NO_ELEMENT, () -> Planners.articles(6), x -> x.shippedShare());
    }
}
