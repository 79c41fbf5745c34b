/** Promises 12 to 19: orders. */
public final class OrdersTest {
    private static final Check check = new Check();

    public static void main(String[] args) {
        promise12Order();
        promise12WrongOrders();
        promise12MostOrders();
        promise13Drop();
        promise13OrdersThatCannotBeDropped();
        promises14And15States();
        promises14To16WrongNumbers();
        promise16Amount();
        promise17Orders();
        promise18PickAll();
        promise18PickLess();
        promise18PickNothing();
        promise18OtherOrdersOfTheArticle();
        promise18WhatIsChecked();
        promise18BlockedAisles();
        promise18WrongAmounts();
        promise18NoRoomForASplit();
        promise19Ship();
        promise19WrongCarriers();
        check.end("OrdersTest");
    }

    /** Two articles with 10 units each, in the aisles 0 and 1. */
    private static Pickwave twoArticles() {
        Pickwave x = new Pickwave();
        x.addArticle(0, 10, 25, 12);
        x.addArticle(1, 10, 5, 12);
        return x;
    }

    private static void promise12Order() {
        Pickwave x = twoArticles();
        check.is("the least", x.order(0, 1, 0), 0);
        check.is("the most", x.order(1, 20, 2), 1);
        check.is("an ordinary one", x.order(1, 7, 1), 2);
        check.isText("they are open", Look.states(x), "ooo");
        check.isText("they are scanned", Look.scans(x), "0n 1n 2n");
        check.is("amount(0)", x.amount(0), 1);
        check.is("amount(1)", x.amount(1), 20);
        check.is("nothing is promised by it", x.free(1), 10);
        check.is("the carrier 1 has one", x.wave(1), 1);
        check.is("it is for the article 1", x.promised(1), 7);
    }

    private static void promise12WrongOrders() {
        Pickwave x = twoArticles();
        check.isThrown("no article", Check.INDEX, x, () -> x.order(2, 1, 0));
        check.isThrown("all of it wrong", Check.INDEX, x, () -> x.order(-1, 0, 3));
        check.isThrown("amount 0", Check.ARGUMENT, x, () -> x.order(0, 0, 0));
        check.isThrown("amount 21", Check.ARGUMENT, x, () -> x.order(0, 21, 0));
        check.isThrown("carrier -1", Check.ARGUMENT, x, () -> x.order(0, 1, -1));
        check.isThrown("carrier 3", Check.ARGUMENT, x, () -> x.order(0, 1, 3));
        check.is("none came", x.order(0, 1, 0), 0);
        for (int far : Check.FAR_OFF) {
            Pickwave y = twoArticles();
            check.isThrown("far off", Check.INDEX, y, () -> y.order(far, 1, 0));
            check.isThrown("far off", Check.ARGUMENT, y, () -> y.order(0, far, 0));
            check.isThrown("far off", Check.ARGUMENT, y, () -> y.order(0, 1, far));
            check.is("none came", y.order(0, 1, 0), 0);
        }
    }

    private static void promise12MostOrders() {
        Pickwave x = twoArticles();
        for (int i = 0; i < 12; i++) {
            check.is("order", x.order(0, 1 + i, i % 3), i);
        }
        check.isThrown("the thirteenth", Check.STATE, x, () -> x.order(0, 1, 0));
        check.isThrownUnseen("a wrong amount", Check.ARGUMENT, () -> x.order(0, 21, 0));
        check.isThrownUnseen("a wrong carrier", Check.ARGUMENT, () -> x.order(0, 1, 3));
        check.isThrownUnseen("a wrong article", Check.INDEX, () -> x.order(2, 1, 0));
        x.drop(0);
        check.isThrownUnseen("dropped ones are counted still", Check.STATE, () -> x.order(0, 1, 0));
        check.is("none came", x.orders(), 12);
    }

    private static void promise13Drop() {
        Pickwave x = twoArticles();
        x.order(0, 4, 0);
        x.order(0, 3, 0);
        x.order(0, 9, 0);
        x.wave(0);
        check.is("an open one", x.drop(2), 3);
        check.is("a promised one", x.drop(0), 7);
        check.is("promised(0)", x.promised(0), 3);
        check.is("stock(0) is as it was", x.stock(0), 10);
        check.is("its amount is as it was", x.amount(0), 4);
        check.isText("states", Look.states(x), "dpd");
        check.isText("scans", Look.scans(x), "0n 1n 2n 1p 0p 2d 0d");
        x.setBlocked(0, true);
        check.is("in a blocked aisle", x.drop(1), 10);
    }

    private static void promise13OrdersThatCannotBeDropped() {
        Pickwave x = twoArticles();
        x.order(0, 4, 0);
        x.order(0, 3, 0);
        x.wave(0);
        x.pick(0, 4);
        check.isThrown("a picked one", Check.STATE, x, () -> x.drop(0));
        x.ship(0);
        check.isThrown("a shipped one", Check.STATE, x, () -> x.drop(0));
        x.drop(1);
        check.isThrown("a dropped one", Check.STATE, x, () -> x.drop(1));
        check.isThrown("none", Check.INDEX, x, () -> x.drop(2));
    }

    private static void promises14And15States() {
        Pickwave x = twoArticles();
        x.order(0, 4, 0);
        x.order(0, 3, 0);
        statesAre(x, "oo");
        x.wave(0);
        statesAre(x, "pp");
        x.setBlocked(0, true);
        statesAre(x, "oo");
        x.setBlocked(0, false);
        x.wave(0);
        statesAre(x, "pp");
        x.pick(0, 4);
        statesAre(x, "kp");
        x.pick(1, 2);
        statesAre(x, "kko");
        x.ship(0);
        statesAre(x, "sso");
        x.drop(2);
        statesAre(x, "ssd");
    }

    private static void statesAre(Pickwave x, String due) {
        check.isText("the states as they are kept", Look.states(x), due);
        check.isText("the states by all scans", Look.statesByScans(x), due);
    }

    private static void promises14To16WrongNumbers() {
        areNoOrder(new Pickwave(), 0);
        areNoOrder(Planners.orders(1), 1);
        for (int far : Check.FAR_OFF) {
            areNoOrder(Planners.orders(1), far);
        }
    }

    private static void areNoOrder(Pickwave x, int order) {
        check.isThrown("state", Check.INDEX, x, () -> x.state(order));
        check.isThrown("stateByScans", Check.INDEX, x, () -> x.stateByScans(order));
        check.isThrown("amount", Check.INDEX, x, () -> x.amount(order));
        check.isThrown("drop", Check.INDEX, x, () -> x.drop(order));
        check.isThrown("pick", Check.INDEX, x, () -> x.pick(order, 1));
        check.isThrown("pick, both wrong", Check.INDEX, x, () -> x.pick(order, -1));
        check.isThrown("waveOf", Check.INDEX, x, () -> x.waveOf(order));
    }

    private static void promise16Amount() {
        Pickwave x = twoArticles();
        x.order(0, 4, 0);
        x.order(0, 6, 0);
        x.wave(0);
        check.is("promised", x.amount(0), 4);
        x.pick(0, 4);
        check.is("picked", x.amount(0), 4);
        x.ship(0);
        check.is("shipped", x.amount(0), 4);
        x.pick(1, 2);
        check.is("what was found", x.amount(1), 2);
        check.is("the rest", x.amount(2), 4);
    }

    private static void promise17Orders() {
        Pickwave x = twoArticles();
        check.is("none", x.orders(), 0);
        x.order(0, 4, 0);
        check.is("one", x.orders(), 1);
        x.wave(0);
        x.pick(0, 1);
        check.is("one more by splitting", x.orders(), 2);
        x.drop(1);
        x.ship(0);
        check.is("dropped and shipped ones, too", x.orders(), 2);
    }

    private static void promise18PickAll() {
        Pickwave x = twoArticles();
        x.order(0, 4, 0);
        x.order(0, 3, 0);
        x.wave(0);
        check.is("no split", x.pick(0, 4), -1);
        check.is("stock", x.stock(0), 6);
        check.is("free", x.free(0), 3);
        check.is("reserve", x.reserve(0), 25);
        check.isText("only it is picked", Look.states(x), "kp");
        check.isText("scans", Look.scans(x), "0n 1n 1p 0p 0k");
    }

    private static void promise18PickLess() {
        Pickwave x = twoArticles();
        x.order(0, 4, 1);
        x.wave(1);
        check.is("the new order", x.pick(0, 3), 1);
        check.is("what was found", x.amount(0), 3);
        check.is("the rest", x.amount(1), 1);
        check.is("stock", x.stock(0), 0);
        check.is("free", x.free(0), 0);
        check.is("promised", x.promised(0), 0);
        check.is("the other article", x.stock(1), 10);
        check.isText("states", Look.states(x), "ko");
        check.isText("scans", Look.scans(x), "0n 0p 0k 1n");
        check.isThrown("the new one was never promised", Check.NO_ELEMENT, x, () -> x.waveOf(1));
        x.giveBack(0, 1, 0);
        check.is("not of the carrier 0", x.wave(0), 0);
        check.is("the new one has the same article and carrier", x.wave(1), 1);
        check.is("promised", x.promised(0), 1);
    }

    private static void promise18PickNothing() {
        Pickwave x = twoArticles();
        x.order(0, 4, 2);
        x.wave(2);
        check.is("the new order", x.pick(0, 0), 1);
        check.is("nothing was found", x.amount(0), 0);
        check.is("all is left", x.amount(1), 4);
        check.is("stock", x.stock(0), 0);
        check.isText("it is dropped", Look.states(x), "do");
        check.isText("scans", Look.scans(x), "0n 0p 0d 1n");
        check.is("a dropped one is not shipped", x.ship(2), 0);
        check.isThrown("nor picked again", Check.STATE, x, () -> x.pick(0, 0));
    }

    private static void promise18OtherOrdersOfTheArticle() {
        Pickwave x = twoArticles();
        x.order(0, 3, 1);
        x.order(1, 1, 0);
        x.order(0, 2, 0);
        x.order(0, 2, 0);
        x.order(0, 1, 0);
        x.order(0, 1, 0);
        x.wave(0);
        x.wave(1);
        x.pick(4, 1);
        x.drop(5);
        String before = Look.scans(x);
        check.is("the new order", x.pick(2, 1), 6);
        check.isText("all others for the article are open", Look.states(x), "opkokdo");
        check.isText("scans", Look.scans(x), before + " 2k 6n 0u 3u");
        check.is("promised(0)", x.promised(0), 0);
        check.is("promised(1)", x.promised(1), 1);
        check.is("stock(1)", x.stock(1), 10);
    }

    private static void promise18WhatIsChecked() {
        Pickwave x = twoArticles();
        x.order(0, 4, 0);
        check.isThrown("an open one", Check.STATE, x, () -> x.pick(0, 4));
        check.isThrown("an open one, less", Check.STATE, x, () -> x.pick(0, 0));
        x.wave(0);
        x.pick(0, 4);
        check.isThrown("a picked one", Check.STATE, x, () -> x.pick(0, 4));
        check.isThrown("a picked one, too much", Check.ARGUMENT, x, () -> x.pick(0, 5));
        x.ship(0);
        check.isThrown("a shipped one", Check.STATE, x, () -> x.pick(0, 4));
    }

    private static void promise18BlockedAisles() {
        Pickwave x = twoArticles();
        x.order(0, 4, 0);
        x.setBlocked(0, true);
        check.isThrown("blocked, and not promised", Check.UNSUPPORTED, x, () -> x.pick(0, 4));
        check.isThrown("blocked, and too much", Check.ARGUMENT, x, () -> x.pick(0, 5));
        x.setBlocked(0, false);
        x.setBlocked(1, true);
        x.order(0, 1, 0);
        x.wave(0);
        check.is("another aisle is blocked", x.pick(1, 1), -1);
    }

    private static void promise18WrongAmounts() {
        for (int amount : new int[] {-1, 5}) {
            isWrongAmount(amount);
        }
        for (int far : Check.FAR_OFF) {
            isWrongAmount(far);
        }
    }

    private static void isWrongAmount(int found) {
        Pickwave x = Planners.promised(4);
        check.isThrown(found + " of 4", Check.ARGUMENT, x, () -> x.pick(0, found));
        check.is("all of it", x.pick(0, 4), -1);
    }

    private static void promise18NoRoomForASplit() {
        Pickwave x = twoArticles();
        x.addArticle(2, 99, 0, 99);
        for (int i = 0; i < 11; i++) {
            x.order(2, 2, 0);
        }
        x.wave(0);
        check.is("the twelfth comes by splitting", x.pick(0, 1), 11);
        x.giveBack(2, 20, 0);
        x.wave(0);
        check.isThrown("no room for a split", Check.STATE, x, () -> x.pick(1, 1));
        check.isThrownUnseen("no room for the rest of nothing", Check.STATE, () -> x.pick(1, 0));
        check.is("all of it is no split", x.pick(1, 2), -1);
        check.isThrownUnseen("nor for an order", Check.STATE, () -> x.order(2, 1, 0));
        check.is("none came", x.orders(), 12);
    }

    private static void promise19Ship() {
        Pickwave x = twoArticles();
        x.order(0, 2, 0);
        x.order(0, 1, 0);
        x.order(1, 3, 1);
        x.order(1, 4, 0);
        x.order(0, 5, 0);
        check.is("nothing is picked", x.ship(0), 0);
        x.wave(0);
        x.wave(1);
        x.pick(3, 4);
        x.pick(2, 3);
        x.pick(0, 2);
        x.drop(1);
        String before = Look.scans(x);
        check.is("all that are picked", x.ship(0), 2);
        check.isText("only those of the carrier", Look.states(x), "sdksp");
        check.isText("by rising numbers", Look.scans(x), before + " 0s 3s");
        check.is("nothing is shipped twice", x.ship(0), 0);
        check.is("stock is as it was", x.stock(0), 8);
        check.is("another carrier", x.ship(1), 1);
        check.is("a carrier without orders", x.ship(2), 0);
        check.isText("scans", Look.scans(x), before + " 0s 3s 2s");
    }

    private static void promise19WrongCarriers() {
        Pickwave x = twoArticles();
        check.isThrown("3", Check.INDEX, x, () -> x.ship(3));
        for (int far : Check.FAR_OFF) {
            check.isThrown("far off", Check.INDEX, x, () -> x.ship(far));
        }
        x.setCutOff(0, 0);
        x.pass(1);
        check.is("the cut-off is nothing to it", x.ship(0), 0);
    }
}
