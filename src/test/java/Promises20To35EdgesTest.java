/** The edges in the promises 20 to 35. Above each test stands its sentence, without "Throws". */
public final class Promises20To35EdgesTest {
    private static final Check check = new Check();

    public static void main(String[] args) {
        promise20CutOffBefore();
        promise20NoSuchCarrier();
        promise20WrongMinute();
        promise21NumberOfOrders();
        promise21NoSuchCarrier();
        promise21CutOffIsOver();
        promise21TwentyWaves();
        promise22ForTheLastTime();
        promise22NoSuchOrder();
        promise22NeverPromised();
        promise23NoWave();
        promise24Minus1IfOver();
        promise24NoSuchCarrier();
        promise25NoSuchRobot();
        promise25NoSuchArticle();
        promise25AisleIsBlocked();
        promise25OnItsWay();
        promise25NoReserve();
        promise25NoRoom();
        promise26NothingIfIdle();
        promises26To28NoSuchRobot();
        promise27NoMinutesIfIdle();
        promise28Idle();
        promise29UnitsToShelves();
        promise29WrongMinutes();
        promise29MinuteOver1439();
        promise30FirstAndLast();
        promise31NoScan();
        promise31MostScans();
        promise32NoSuchScan();
        promise33NoSuchScan();
        promise34NothingIsShipped();
        promise35NoneAndAll();
        promise35NoOrder();
        check.end("Promises20To35EdgesTest");
    }

    // Returns the cut-off before.
    private static void promise20CutOffBefore() {
        Pickwave x = Planners.atMinute(2);
        check.is("at first", x.setCutOff(1, 1439), 1439);
        check.is("the last minute", x.setCutOff(1, 0), 1439);
        check.is("the first minute, though it is over", x.setCutOff(1, 1), 0);
        check.is("then", x.setCutOff(1, 2), 1);
        check.is("another carrier", x.setCutOff(0, 7), 1439);
    }

    // IndexOutOfBoundsException if there is no such carrier
    private static void promise20NoSuchCarrier() {
        check.isBetween("carrier", Check.INDEX, 0, 2, Pickwave::new, (x, n) -> x.setCutOff(n, 5));
    }

    // IllegalArgumentException if it is not between 0 and 1439
    private static void promise20WrongMinute() {
        check.isBetween("minute", Check.ARGUMENT, 0, 1439, Pickwave::new, (x, n) -> x.setCutOff(2, n));
    }

    // Returns the number of orders that it promises.
    private static void promise21NumberOfOrders() {
        for (int orders = 0; orders <= 12; orders++) {
            Pickwave x = Planners.orders(orders);
            check.is("all of them", x.wave(0), orders);
            check.is("none is left", x.wave(0), 0);
        }
    }

    // IndexOutOfBoundsException if there is no such carrier
    private static void promise21NoSuchCarrier() {
        check.isBetween("carrier", Check.INDEX, 0, 2, Pickwave::new, (x, n) -> x.wave(n));
    }

    // UnsupportedOperationException if the cut-off of the carrier is over
    private static void promise21CutOffIsOver() {
        for (int i : new int[] {0, 1, 60, 1438}) {
            Pickwave x = Planners.atMinute(i);
            for (int carrier = 0; carrier < 3; carrier++) {
                x.setCutOff(carrier, i);
            }
            check.is("at it", x.wave(1), 0);
            x.setCutOff(0, i + 1);
            x.pass(1);
            check.isThrown("one minute over", Check.UNSUPPORTED, x, () -> x.wave(1));
            check.isThrown("of the carrier 2, too", Check.UNSUPPORTED, x, () -> x.wave(2));
            check.is("another carrier is at its cut-off", x.wave(0), 0);
        }
    }

    // IllegalStateException if there are 20 waves
    private static void promise21TwentyWaves() {
        Pickwave x = Planners.waves(19);
        check.is("if there are 19", x.wave(0), 0);
        check.is("waves", x.waves(), 20);
        check.isThrown("if there are 20", Check.STATE, x, () -> x.wave(0));
    }

    // Returns the wave by which an order was promised for the last time.
    private static void promise22ForTheLastTime() {
        Pickwave x = Planners.orders(1);
        for (int i = 0; i < 20; i++) {
            x.wave(0);
            check.is("each wave", x.waveOf(0), i);
            if (i < 19) {
                x.setBlocked(0, true);
                x.setBlocked(0, false);
                check.is("it is open again", x.waveOf(0), i);
            }
        }
        x.drop(0);
        check.is("it is dropped", x.waveOf(0), 19);
        Pickwave y = Planners.promised(2);
        y.wave(0);
        y.pick(0, 0);
        check.is("a wave that did not promise it", y.waveOf(0), 0);
    }

    // IndexOutOfBoundsException if there is no such order
    private static void promise22NoSuchOrder() {
        for (int i : new int[] {0, 1, 12}) {
            int orders = i;
            check.isBetween("order", Check.INDEX, 0, orders - 1, () -> Planners.promisedOrders(orders),
                    (x, n) -> x.waveOf(n));
        }
    }

    // NoSuchElementException if it was never promised
    private static void promise22NeverPromised() {
        Pickwave x = Planners.orders(1);
        check.isThrown("it came just now", Check.NO_ELEMENT, x, () -> x.waveOf(0));
        x.wave(1);
        check.isThrown("another carrier's wave", Check.NO_ELEMENT, x, () -> x.waveOf(0));
        x.wave(0);
        check.is("once", x.waveOf(0), 1);
        x.pick(0, 0);
        check.isThrown("the rest of a split", Check.NO_ELEMENT, x, () -> x.waveOf(1));
        check.is("the split one", x.waveOf(0), 1);
    }

    // Returns the number of waves.
    private static void promise23NoWave() {
        for (int i = 0; i <= 20; i++) {
            check.is("waves", Planners.waves(i).waves(), i);
        }
    }

    // Returns the number of minutes, -1 if it is over.
    private static void promise24Minus1IfOver() {
        Pickwave x = Planners.atMinute(100);
        for (int carrier = 0; carrier < 3; carrier++) {
            check.is("at first", x.minutesLeft(carrier), 1339);
            x.setCutOff(carrier, 101);
            check.is("one minute ahead", x.minutesLeft(carrier), 1);
            x.setCutOff(carrier, 100);
            check.is("at it", x.minutesLeft(carrier), 0);
            x.setCutOff(carrier, 99);
            check.is("one minute over", x.minutesLeft(carrier), -1);
            x.setCutOff(carrier, 98);
            check.is("two minutes over", x.minutesLeft(carrier), -1);
            x.setCutOff(carrier, 0);
            check.is("long over", x.minutesLeft(carrier), -1);
        }
        check.is("the whole day", new Pickwave().minutesLeft(0), 1439);
        check.is("the last minute", Planners.atMinute(1439).minutesLeft(0), 0);
    }

    // IndexOutOfBoundsException if there is no such carrier
    private static void promise24NoSuchCarrier() {
        check.isBetween("carrier", Check.INDEX, 0, 2, Pickwave::new, (x, n) -> x.minutesLeft(n));
    }

    // IndexOutOfBoundsException if there is no such robot
    private static void promise25NoSuchRobot() {
        check.isBetween("robot", Check.INDEX, 0, 1, () -> Planners.articles(1), (x, n) -> x.send(n, 0));
    }

    // or article
    private static void promise25NoSuchArticle() {
        for (int i : new int[] {0, 1, 6}) {
            int articles = i;
            check.isBetween("article", Check.INDEX, 0, articles - 1, () -> Planners.articles(articles),
                    (x, n) -> x.send(1, n));
        }
    }

    // UnsupportedOperationException if the aisle of the article is blocked
    private static void promise25AisleIsBlocked() {
        for (int i = 0; i < 4; i++) {
            int blocked = i;
            Pickwave x = Planners.articles(4);
            x.setBlocked(blocked, true);
            check.isThrown("blocked", Check.UNSUPPORTED, x, () -> x.send(0, blocked));
            check.is("another aisle", x.send(0, (blocked + 1) % 4), 3);
            x.setBlocked(blocked, false);
            check.is("open again", x.send(1, blocked), 3);
        }
    }

    // IllegalStateException if the robot is on its way
    private static void promise25OnItsWay() {
        Pickwave x = Planners.articles(2);
        x.send(0, 0);
        check.isThrown("on its way", Check.STATE, x, () -> x.send(0, 1));
        check.is("the other one is not", x.send(1, 1), 3);
        x.pass(2);
        check.isThrown("one minute ahead", Check.STATE, x, () -> x.send(0, 0));
        x.setBlocked(0, true);
        x.pass(10);
        check.isThrown("it stands", Check.STATE, x, () -> x.send(0, 1));
        x.setBlocked(0, false);
        x.pass(1);
        check.is("idle", x.send(0, 1), 3);
    }

    // NoSuchElementException if the article has no reserve
    private static void promise25NoReserve() {
        Pickwave x = Planners.oneArticle(0, 0, 9);
        check.isThrown("none", Check.NO_ELEMENT, x, () -> x.send(0, 0));
        Pickwave y = Planners.oneArticle(0, 1, 9);
        check.is("one", y.send(0, 0), 3);
        check.isThrown("the other robot took it", Check.NO_ELEMENT, y, () -> y.send(1, 0));
    }

    // or its shelf has no room
    private static void promise25NoRoom() {
        Pickwave x = Planners.oneArticle(9, 99, 9);
        check.isThrown("none", Check.NO_ELEMENT, x, () -> x.send(0, 0));
        x.order(0, 1, 0);
        x.wave(0);
        check.isThrown("what is promised lies there still", Check.NO_ELEMENT, x, () -> x.send(0, 0));
        x.pick(0, 1);
        check.is("for one", x.send(0, 0), 3);
        check.is("the other robot is on its way only", x.send(1, 0), 7);
    }

    // Returns the number of units, 0 if it is idle.
    private static void promise26NothingIfIdle() {
        Pickwave x = Planners.oneArticle(0, 1, 9);
        check.is("at first", x.carried(0), 0);
        x.send(0, 0);
        check.is("on its way", x.carried(0), 1);
        check.is("the other one", x.carried(1), 0);
        x.pass(2);
        check.is("one minute ahead", x.carried(0), 1);
        x.pass(1);
        check.is("idle", x.carried(0), 0);
    }

    // IndexOutOfBoundsException if there is no such robot
    private static void promises26To28NoSuchRobot() {
        check.isBetween("carried", Check.INDEX, 0, 1, Pickwave::new, (x, n) -> x.carried(n));
        check.isBetween("minutesOf", Check.INDEX, 0, 1, Pickwave::new, (x, n) -> x.minutesOf(n));
        check.isBetween("aisleOf", Check.INDEX, 0, 1, Promises20To35EdgesTest::bothOnTheirWay,
                (x, n) -> x.aisleOf(n));
    }

    private static Pickwave bothOnTheirWay() {
        Pickwave x = Planners.articles(2);
        x.send(0, 0);
        x.send(1, 1);
        return x;
    }

    // Returns the number of minutes, 0 if it is idle.
    private static void promise27NoMinutesIfIdle() {
        Pickwave x = Planners.oneArticle(0, 1, 9);
        check.is("at first", x.minutesOf(1), 0);
        x.send(1, 0);
        check.is("the other one", x.minutesOf(0), 0);
        for (int left = 3; left > 0; left--) {
            check.is("on its way", x.minutesOf(1), left);
            x.pass(1);
        }
        check.is("idle", x.minutesOf(1), 0);
        x.pass(1);
        check.is("idle still", x.minutesOf(1), 0);
    }

    // NoSuchElementException if it is idle
    private static void promise28Idle() {
        Pickwave x = Planners.articles(4);
        check.isThrown("at first", Check.NO_ELEMENT, x, () -> x.aisleOf(1));
        x.send(1, 3);
        check.is("on its way", x.aisleOf(1), 3);
        check.isThrown("the other one", Check.NO_ELEMENT, x, () -> x.aisleOf(0));
        x.pass(2);
        check.is("one minute ahead", x.aisleOf(1), 3);
        x.pass(1);
        check.isThrown("idle", Check.NO_ELEMENT, x, () -> x.aisleOf(1));
    }

    // Returns how many units robots bring to shelves.
    private static void promise29UnitsToShelves() {
        check.is("idle ones", Planners.articles(1).pass(60), 0);
        Pickwave x = bothOnTheirWay();
        check.is("not there", x.pass(2), 0);
        check.is("both", x.pass(1), 20);
        Pickwave y = bothOnTheirWay();
        check.is("both, and minutes behind it", y.pass(60), 20);
        Pickwave z = Planners.oneArticle(0, 50, 10);
        z.send(0, 0);
        z.giveBack(0, 10, 0);
        check.is("to the reserve", z.pass(3), 0);
    }

    // IllegalArgumentException if it is not between 1 and 60
    private static void promise29WrongMinutes() {
        check.isBetween("minutes", Check.ARGUMENT, 1, 60, Planners::busy, (x, n) -> x.pass(n));
    }

    // or the minute would be greater than 1439
    private static void promise29MinuteOver1439() {
        check.isBetween("at 1379", Check.ARGUMENT, 1, 60, () -> Planners.atMinute(1379), (x, n) -> x.pass(n));
        for (int left = 0; left < 60; left++) {
            int minute = 1439 - left;
            check.isBetween("at " + minute, Check.ARGUMENT, 1, left, () -> Planners.atMinute(minute),
                    (x, n) -> x.pass(n));
        }
    }

    // Returns the minute.
    private static void promise30FirstAndLast() {
        for (int minute : new int[] {0, 1, 59, 60, 61, 1438, 1439}) {
            check.is("minute", Planners.atMinute(minute).minute(), minute);
        }
    }

    // Returns the number of scans.
    private static void promise31NoScan() {
        for (int orders = 0; orders <= 12; orders++) {
            check.is("scans", Planners.orders(orders).scans(), orders);
        }
    }

    // Returns the number of scans: the most that the document's orders and waves can make
    private static void promise31MostScans() {
        Pickwave x = Planners.orders(12);
        for (int i = 0; i < 20; i++) {
            x.wave(0);
            if (i < 19) {
                x.setBlocked(0, true);
                x.setBlocked(0, false);
            }
        }
        for (int i = 0; i < 12; i++) {
            x.pick(i, 1);
        }
        x.ship(0);
        check.is("scans", x.scans(), 12 * (1 + 20 + 19 + 1 + 1));
        check.is("the last order", x.scanOrder(503), 11);
        check.isSign("the last sign", x.scanSign(503), 's');
        check.isThrownUnseen("behind it", Check.INDEX, () -> x.scanOrder(504));
        check.isThrownUnseen("behind it", Check.INDEX, () -> x.scanSign(504));
        check.isText("states", Look.statesByScans(x), "ssssssssssss");
    }

    // IndexOutOfBoundsException if there is no such scan
    private static void promise32NoSuchScan() {
        for (int i : new int[] {0, 1, 12}) {
            int scans = i;
            check.isBetween("scan", Check.INDEX, 0, scans - 1, () -> Planners.orders(scans), (x, n) -> x.scanOrder(n));
        }
        check.is("scans are counted from 0", Planners.orders(2).scanOrder(0), 0);
        check.is("the last one", Planners.orders(2).scanOrder(1), 1);
    }

    // IndexOutOfBoundsException if there is no such scan
    private static void promise33NoSuchScan() {
        for (int i : new int[] {0, 1, 12}) {
            int scans = i;
            check.isBetween("scan", Check.INDEX, 0, scans - 1, () -> Planners.orders(scans), (x, n) -> x.scanSign(n));
        }
        check.isSign("the first one", Planners.promised(1).scanSign(0), 'n');
        check.isSign("the last one", Planners.promised(1).scanSign(1), 'p');
    }

    // Returns the sum of the amounts of all shipped orders.
    private static void promise34NothingIsShipped() {
        check.is("no order", new Pickwave().shipped(), 0);
        Pickwave x = Planners.promised(20);
        x.pick(0, 20);
        check.is("a picked one", x.shipped(), 0);
        x.ship(1);
        check.is("of another carrier", x.shipped(), 0);
        x.ship(0);
        check.is("the most of an order", x.shipped(), 20);
        Pickwave y = Planners.promised(20);
        y.pick(0, 1);
        y.ship(0);
        check.is("what was found", y.shipped(), 1);
        for (int orders = 1; orders <= 12; orders++) {
            Pickwave z = Planners.promisedOrders(orders);
            for (int i = 0; i < orders; i++) {
                z.pick(i, 1);
                z.ship(0);
            }
            check.is("of all", z.shipped(), orders);
        }
    }

    // Returns their number divided by that of all orders, both converted to float.
    private static void promise35NoneAndAll() {
        for (int all = 1; all <= 12; all++) {
            for (int picked = 0; picked <= all; picked++) {
                Pickwave x = Planners.promisedOrders(all);
                for (int i = 0; i < picked; i++) {
                    x.pick(i, 1);
                }
                x.ship(0);
                check.isShare("share", x.shippedShare(), (float) picked / (float) all);
            }
        }
    }

    // NoSuchElementException if there is no order
    private static void promise35NoOrder() {
        Pickwave x = Planners.articles(1);
        check.isThrown("none", Check.NO_ELEMENT, x, () -> x.shippedShare());
        x.order(0, 1, 0);
        check.isShare("one", x.shippedShare(), 0f);
        x.drop(0);
        check.isShare("a dropped one is an order", x.shippedShare(), 0f);
    }
}
