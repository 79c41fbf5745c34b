/** "If several exceptions apply, the one that is listed first is thrown": each call that lists several. */
public final class SeveralExceptionsTest {
    private static final Check check = new Check();

    public static void main(String[] args) {
        addArticle();
        setPickers();
        giveBack();
        orderOfAWrongArticle();
        orderWithWrongNumbers();
        pickOfAWrongOrder();
        pickOfAWrongAmount();
        pickInABlockedAisle();
        setCutOff();
        wave();
        sendOfAWrongRobot();
        sendOfAWrongArticle();
        sendInABlockedAisle();
        sendOfARobotOnItsWay();
        check.end("SeveralExceptionsTest");
    }

    private static void addArticle() {
        Pickwave x = Planners.articles(6);
        check.isThrownUnseen("no aisle, 6 articles", Check.ARGUMENT, () -> x.addArticle(-1, 1, 1, 5));
        check.isThrownUnseen("no aisle, 6 articles", Check.ARGUMENT, () -> x.addArticle(4, 1, 1, 5));
        check.isThrownUnseen("room 0, 6 articles", Check.ARGUMENT, () -> x.addArticle(0, 0, 1, 0));
        check.isThrownUnseen("room 100, 6 articles", Check.ARGUMENT, () -> x.addArticle(0, 1, 1, 100));
        check.isThrownUnseen("stock -1, 6 articles", Check.ARGUMENT, () -> x.addArticle(0, -1, 1, 5));
        check.isThrownUnseen("stock 6 of 5, 6 articles", Check.ARGUMENT, () -> x.addArticle(0, 6, 1, 5));
        check.isThrownUnseen("reserve -1, 6 articles", Check.ARGUMENT, () -> x.addArticle(0, 1, -1, 5));
        check.isThrownUnseen("reserve 1000, 6 articles", Check.ARGUMENT, () -> x.addArticle(0, 1, 1000, 5));
        check.isThrownUnseen("all wrong, 6 articles", Check.ARGUMENT, () -> x.addArticle(4, -1, -1, 0));
        check.isThrownUnseen("6 articles alone", Check.STATE, () -> x.addArticle(0, 1, 1, 5));
    }

    private static void setPickers() {
        Pickwave x = Planners.busy();
        check.isThrownUnseen("no aisle, -1 pickers", Check.INDEX, () -> x.setPickers(-1, -1));
        check.isThrownUnseen("no aisle, 10 pickers", Check.INDEX, () -> x.setPickers(4, 10));
        check.isThrownUnseen("10 pickers alone", Check.ARGUMENT, () -> x.setPickers(3, 10));
    }

    private static void giveBack() {
        Pickwave x = Planners.busy();
        check.isThrownUnseen("no article, good -1", Check.INDEX, () -> x.giveBack(4, -1, 1));
        check.isThrownUnseen("no article, good 21", Check.INDEX, () -> x.giveBack(-1, 21, 1));
        check.isThrownUnseen("no article, bad -1", Check.INDEX, () -> x.giveBack(4, 1, -1));
        check.isThrownUnseen("no article, bad 21", Check.INDEX, () -> x.giveBack(-1, 1, 21));
        check.isThrownUnseen("no article, both 0", Check.INDEX, () -> x.giveBack(4, 0, 0));
        Pickwave y = Planners.fullReserve();
        check.isThrownUnseen("good 21, reserve 9999", Check.ARGUMENT, () -> y.giveBack(0, 21, 0));
        check.isThrownUnseen("bad 21, reserve 9999", Check.ARGUMENT, () -> y.giveBack(0, 1, 21));
        check.isThrownUnseen("bad -1, reserve 9999", Check.ARGUMENT, () -> y.giveBack(0, 1, -1));
        check.isThrownUnseen("reserve 9999 alone", Check.STATE, () -> y.giveBack(0, 1, 20));
        Pickwave z = Planners.reserveOverItsBound();
        check.isThrownUnseen("both 0, reserve 10000", Check.ARGUMENT, () -> z.giveBack(0, 0, 0));
        check.isThrownUnseen("good -1, reserve 10000", Check.ARGUMENT, () -> z.giveBack(0, -1, 1));
        check.isThrownUnseen("no article, reserve 10000", Check.INDEX, () -> z.giveBack(1, 1, 0));
    }

    private static void orderOfAWrongArticle() {
        Pickwave x = Planners.busy();
        check.isThrownUnseen("no article, amount 0", Check.INDEX, () -> x.order(4, 0, 0));
        check.isThrownUnseen("no article, amount 21", Check.INDEX, () -> x.order(-1, 21, 0));
        check.isThrownUnseen("no article, no carrier", Check.INDEX, () -> x.order(4, 1, 3));
        Pickwave y = Planners.busyWithTwelveOrders();
        check.isThrownUnseen("no article, 12 orders", Check.INDEX, () -> y.order(4, 1, 0));
        check.isThrownUnseen("no article, amount 0, no carrier, 12 orders", Check.INDEX, () -> y.order(-1, 0, -1));
    }

    private static void orderWithWrongNumbers() {
        Pickwave x = Planners.busyWithTwelveOrders();
        check.isThrownUnseen("amount 0, 12 orders", Check.ARGUMENT, () -> x.order(0, 0, 0));
        check.isThrownUnseen("amount 21, 12 orders", Check.ARGUMENT, () -> x.order(0, 21, 0));
        check.isThrownUnseen("carrier -1, 12 orders", Check.ARGUMENT, () -> x.order(0, 1, -1));
        check.isThrownUnseen("carrier 3, 12 orders", Check.ARGUMENT, () -> x.order(0, 1, 3));
        check.isThrownUnseen("12 orders alone", Check.STATE, () -> x.order(0, 1, 0));
    }

    private static void pickOfAWrongOrder() {
        Pickwave x = Planners.busyWithTwelveOrders();
        for (int aisle = 0; aisle < 4; aisle++) {
            x.setBlocked(aisle, true);
        }
        check.isThrownUnseen("no order, -1 found", Check.INDEX, () -> x.pick(12, -1));
        check.isThrownUnseen("no order, 21 found", Check.INDEX, () -> x.pick(-1, 21));
        check.isThrownUnseen("no order, all aisles blocked", Check.INDEX, () -> x.pick(12, 0));
        check.isThrownUnseen("-1 found of an order alone", Check.ARGUMENT, () -> x.pick(11, -1));
    }

    private static void pickOfAWrongAmount() {
        Pickwave x = Planners.busy();
        check.isThrownUnseen("-1 found, blocked, open", Check.ARGUMENT, () -> x.pick(4, -1));
        check.isThrownUnseen("3 of 2 found, blocked, open", Check.ARGUMENT, () -> x.pick(4, 3));
        check.isThrownUnseen("-1 found, open", Check.ARGUMENT, () -> x.pick(5, -1));
        check.isThrownUnseen("8 of 7 found, open", Check.ARGUMENT, () -> x.pick(5, 8));
        check.isThrownUnseen("5 of 4 found, shipped", Check.ARGUMENT, () -> x.pick(0, 5));
        check.isThrownUnseen("7 of 6 found, picked", Check.ARGUMENT, () -> x.pick(1, 7));
        check.isThrownUnseen("6 of 5 found, dropped", Check.ARGUMENT, () -> x.pick(2, 6));
        Pickwave y = Planners.busyWithTwelveOrders();
        check.isThrownUnseen("-1 found, 12 orders", Check.ARGUMENT, () -> y.pick(3, -1));
        check.isThrownUnseen("4 of 3 found, 12 orders", Check.ARGUMENT, () -> y.pick(3, 4));
        check.isThrownUnseen("12 orders alone", Check.STATE, () -> y.pick(3, 2));
    }

    private static void pickInABlockedAisle() {
        Pickwave x = Planners.busy();
        check.isThrownUnseen("blocked, open", Check.UNSUPPORTED, () -> x.pick(4, 2));
        check.isThrownUnseen("blocked, open, less is found", Check.UNSUPPORTED, () -> x.pick(4, 1));
        x.setBlocked(0, true);
        x.setBlocked(1, true);
        check.isThrownUnseen("blocked, shipped", Check.UNSUPPORTED, () -> x.pick(0, 4));
        check.isThrownUnseen("blocked, picked", Check.UNSUPPORTED, () -> x.pick(1, 6));
        check.isThrownUnseen("blocked, dropped", Check.UNSUPPORTED, () -> x.pick(2, 5));
        check.isThrownUnseen("blocked, open again", Check.UNSUPPORTED, () -> x.pick(3, 3));
        Pickwave y = Planners.busyWithTwelveOrders();
        check.isThrownUnseen("blocked, 12 orders", Check.UNSUPPORTED, () -> y.pick(4, 1));
        y.setBlocked(3, false);
        check.isThrownUnseen("open, 12 orders", Check.STATE, () -> y.pick(4, 1));
    }

    private static void setCutOff() {
        Pickwave x = Planners.busy();
        check.isThrownUnseen("no carrier, minute -1", Check.INDEX, () -> x.setCutOff(-1, -1));
        check.isThrownUnseen("no carrier, minute 1440", Check.INDEX, () -> x.setCutOff(3, 1440));
        check.isThrownUnseen("minute 1440 alone", Check.ARGUMENT, () -> x.setCutOff(2, 1440));
    }

    private static void wave() {
        Pickwave x = Planners.busyWithTwentyWaves();
        check.isThrownUnseen("no carrier, 20 waves", Check.INDEX, () -> x.wave(-1));
        check.isThrownUnseen("no carrier, 20 waves", Check.INDEX, () -> x.wave(3));
        check.isThrownUnseen("cut-off over, 20 waves", Check.UNSUPPORTED, () -> x.wave(2));
        check.isThrownUnseen("20 waves alone", Check.STATE, () -> x.wave(1));
    }

    private static void sendOfAWrongRobot() {
        Pickwave x = Planners.busy();
        check.isThrownUnseen("no robot, no article", Check.INDEX, () -> x.send(2, 4));
        check.isThrownUnseen("no robot, no article", Check.INDEX, () -> x.send(-1, -1));
        check.isThrownUnseen("no robot, blocked", Check.INDEX, () -> x.send(2, 3));
        check.isThrownUnseen("no robot, no reserve", Check.INDEX, () -> x.send(2, 1));
        check.isThrownUnseen("no robot, no room", Check.INDEX, () -> x.send(-1, 2));
    }

    private static void sendOfAWrongArticle() {
        Pickwave x = Planners.busy();
        check.isThrownUnseen("no article, on its way", Check.INDEX, () -> x.send(0, 4));
        check.isThrownUnseen("no article, on its way", Check.INDEX, () -> x.send(0, -1));
        x.setBlocked(0, true);
        check.isThrownUnseen("no article, on its way, in a blocked aisle", Check.INDEX, () -> x.send(0, 4));
    }

    private static void sendInABlockedAisle() {
        Pickwave x = Planners.busy();
        x.setBlocked(1, true);
        x.setBlocked(2, true);
        check.isThrownUnseen("blocked, on its way", Check.UNSUPPORTED, () -> x.send(0, 3));
        check.isThrownUnseen("blocked, on its way, no reserve", Check.UNSUPPORTED, () -> x.send(0, 1));
        check.isThrownUnseen("blocked, on its way, no room", Check.UNSUPPORTED, () -> x.send(0, 2));
        check.isThrownUnseen("blocked, no reserve", Check.UNSUPPORTED, () -> x.send(1, 1));
        check.isThrownUnseen("blocked, no room", Check.UNSUPPORTED, () -> x.send(1, 2));
        check.isThrownUnseen("blocked alone", Check.UNSUPPORTED, () -> x.send(1, 3));
    }

    private static void sendOfARobotOnItsWay() {
        Pickwave x = Planners.busy();
        check.isThrownUnseen("on its way, no reserve", Check.STATE, () -> x.send(0, 1));
        check.isThrownUnseen("on its way, no room", Check.STATE, () -> x.send(0, 2));
        check.isThrownUnseen("on its way alone", Check.STATE, () -> x.send(0, 0));
        check.isThrownUnseen("no reserve alone", Check.NO_ELEMENT, () -> x.send(1, 1));
        check.isThrownUnseen("no room alone", Check.NO_ELEMENT, () -> x.send(1, 2));
    }
}
