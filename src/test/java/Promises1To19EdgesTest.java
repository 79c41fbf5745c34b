/**
 * The edges in the promises 1 to 19. Above each test stands its sentence, without "Throws"; a test named by
 * several calls is of a sentence that stands at each of them.
 */
public final class Promises1To19EdgesTest {
    private static final Check check = new Check();

    public static void main(String[] args) {
        promise1Empty();
        promise2WrongAisle();
        promise2WrongRoom();
        promise2WrongStock();
        promise2WrongReserve();
        promise2SixArticles();
        promises3To7NoSuchArticle();
        promises5To7NothingPromised();
        promises5To7AllPromised();
        promise7FoundFromTheStates();
        promise8NoSuchAisle();
        promise8WasBlockedBefore();
        promise9AtFirstNone();
        promise9NoSuchAisle();
        promise9WrongNumber();
        promise10UnitsToTheShelf();
        promise10NoSuchArticle();
        promise10WrongGood();
        promise10WrongBad();
        promise10BothAre0();
        promise10ReserveOver9999();
        promise10ReserveIsOver9999Already();
        promise11NothingWrittenOff();
        promise12NoSuchArticle();
        promise12WrongAmount();
        promise12NoSuchCarrier();
        promise12TwelveOrders();
        promise13FreeThen();
        promise13NoSuchOrder();
        promise13Neither();
        promises14To16NoSuchOrder();
        promise15TheSameState();
        promise17NoOrder();
        promise18OtherwiseMinus1();
        promise18NoSuchOrder();
        promise18WrongAmount();
        promise18AmountOfADroppedOrder();
        promise18AisleIsBlocked();
        promise18NotPromised();
        promise18SplitOfTwelve();
        promise19NumberOfTheseOrders();
        promise19NoSuchCarrier();
        check.end("Promises1To19EdgesTest");
    }

    // Creates a planner without articles and orders, at the minute 0.
    private static void promise1Empty() {
        Pickwave x = new Pickwave();
        check.isThrown("no article", Check.INDEX, x, () -> x.stock(0));
        check.isThrown("no order", Check.INDEX, x, () -> x.state(0));
        check.is("orders", x.orders(), 0);
        check.is("minute", x.minute(), 0);
    }

    // IllegalArgumentException if there is no such aisle
    private static void promise2WrongAisle() {
        check.isBetween("aisle", Check.ARGUMENT, 0, 3, Pickwave::new, (x, n) -> x.addArticle(n, 1, 1, 5));
    }

    // the room is not between 1 and 99
    private static void promise2WrongRoom() {
        check.isBetween("room", Check.ARGUMENT, 1, 99, Pickwave::new, (x, n) -> x.addArticle(0, 0, 1, n));
    }

    // the stock is not between 0 and the room
    private static void promise2WrongStock() {
        for (int i : new int[] {1, 2, 50, 98, 99}) {
            int room = i;
            check.isBetween("stock in a room of " + room, Check.ARGUMENT, 0, room, Pickwave::new,
                    (x, n) -> x.addArticle(0, n, 1, room));
        }
    }

    // or the reserve is not between 0 and 999
    private static void promise2WrongReserve() {
        check.isBetween("reserve", Check.ARGUMENT, 0, 999, Pickwave::new, (x, n) -> x.addArticle(0, 1, n, 5));
    }

    // IllegalStateException if there are 6 articles
    private static void promise2SixArticles() {
        check.is("if there are 5", Planners.articles(5).addArticle(0, 1, 1, 1), 5);
        Pickwave x = Planners.articles(6);
        check.isThrown("if there are 6", Check.STATE, x, () -> x.addArticle(0, 1, 1, 1));
    }

    // IndexOutOfBoundsException if there is no such article
    private static void promises3To7NoSuchArticle() {
        for (int i : new int[] {0, 1, 6}) {
            isArticleOf(i, "stock", (x, n) -> x.stock(n));
            isArticleOf(i, "reserve", (x, n) -> x.reserve(n));
            isArticleOf(i, "free", (x, n) -> x.free(n));
            isArticleOf(i, "promised", (x, n) -> x.promised(n));
            isArticleOf(i, "promisedByScans", (x, n) -> x.promisedByScans(n));
        }
    }

    private static void isArticleOf(int articles, String what, Check.CallWithNumber call) {
        check.isBetween(what, Check.INDEX, 0, articles - 1, () -> Planners.articles(articles), call);
    }

    // Returns the sum of the amounts of the promised orders for an article: there is none
    private static void promises5To7NothingPromised() {
        Pickwave x = Planners.articles(2);
        sumIs(x, 0, 0, 10);
        x.order(0, 4, 0);
        sumIs(x, 0, 0, 10);
        x.order(1, 10, 1);
        x.wave(1);
        sumIs(x, 0, 0, 10);
    }

    // Returns the sum of the amounts of the promised orders for an article: all that can be
    private static void promises5To7AllPromised() {
        for (int orders = 1; orders <= 12; orders++) {
            sumIs(Planners.promisedOrders(orders), 0, orders, 50 - orders);
        }
        Pickwave x = Planners.articles(2);
        x.order(0, 10, 0);
        x.order(1, 9, 0);
        x.order(1, 1, 1);
        x.wave(0);
        x.wave(1);
        sumIs(x, 0, 10, 0);
        sumIs(x, 1, 10, 0);
    }

    // Returns the same sum, found from the states by all scans.
    private static void promise7FoundFromTheStates() {
        Pickwave x = Planners.busy();
        sumIs(x, 0, 3, 7);
        sumIs(x, 1, 0, 9);
        x.drop(3);
        sumIs(x, 0, 0, 10);
        Pickwave y = Planners.promisedOrders(3);
        y.pick(1, 1);
        sumIs(y, 0, 2, 47);
        y.setBlocked(0, true);
        sumIs(y, 0, 0, 49);
        y.setBlocked(0, false);
        y.wave(0);
        sumIs(y, 0, 2, 47);
        y.pick(2, 0);
        sumIs(y, 0, 0, 0);
    }

    private static void sumIs(Pickwave x, int article, int sum, int free) {
        check.is("promised", x.promised(article), sum);
        check.is("promisedByScans", x.promisedByScans(article), sum);
        check.is("free", x.free(article), free);
    }

    // IndexOutOfBoundsException if there is no such aisle
    private static void promise8NoSuchAisle() {
        check.isBetween("block", Check.INDEX, 0, 3, Pickwave::new, (x, n) -> x.setBlocked(n, true));
        check.isBetween("open", Check.INDEX, 0, 3, Pickwave::new, (x, n) -> x.setBlocked(n, false));
    }

    // Returns true if it was blocked before.
    private static void promise8WasBlockedBefore() {
        for (int aisle = 0; aisle < 4; aisle++) {
            Pickwave x = new Pickwave();
            check.isTrue("open at first, and opened", !x.setBlocked(aisle, false));
            check.isTrue("open, and blocked", !x.setBlocked(aisle, true));
            check.isTrue("blocked, and blocked", x.setBlocked(aisle, true));
            for (int other = 0; other < 4; other++) {
                check.isTrue("no other one", x.setBlocked(other, false) == (other == aisle));
            }
        }
    }

    // Tells how many pickers an aisle has, at first none.
    private static void promise9AtFirstNone() {
        Pickwave x = new Pickwave();
        for (int aisle = 0; aisle < 4; aisle++) {
            check.is("at first", x.setPickers(aisle, 9), 0);
            check.is("the number before", x.setPickers(aisle, 0), 9);
            check.is("the number before", x.setPickers(aisle, 1), 0);
        }
    }

    // IndexOutOfBoundsException if there is no such aisle
    private static void promise9NoSuchAisle() {
        check.isBetween("aisle", Check.INDEX, 0, 3, Pickwave::new, (x, n) -> x.setPickers(n, 1));
    }

    // IllegalArgumentException if the number is not between 0 and 9
    private static void promise9WrongNumber() {
        check.isBetween("pickers", Check.ARGUMENT, 0, 9, Pickwave::new, (x, n) -> x.setPickers(3, n));
    }

    // Returns how many units come to the shelf.
    private static void promise10UnitsToTheShelf() {
        for (int room = 0; room <= 21; room++) {
            Pickwave x = Planners.oneArticle(21 - room, 0, 21);
            check.is("of 20", x.giveBack(0, 20, 20), Math.min(20, room));
        }
        check.is("no good ones", Planners.oneArticle(0, 0, 21).giveBack(0, 0, 20), 0);
    }

    // IndexOutOfBoundsException if there is no such article
    private static void promise10NoSuchArticle() {
        for (int i : new int[] {0, 1, 6}) {
            isArticleOf(i, "giveBack", (x, n) -> x.giveBack(n, 1, 1));
        }
    }

    // IllegalArgumentException if a number is not between 0 and 20: that of the good units
    private static void promise10WrongGood() {
        check.isBetween("good", Check.ARGUMENT, 0, 20, () -> Planners.articles(1), (x, n) -> x.giveBack(0, n, 1));
        check.isBetween("good", Check.ARGUMENT, 1, 20, () -> Planners.articles(1), (x, n) -> x.giveBack(0, n, 0));
    }

    // IllegalArgumentException if a number is not between 0 and 20: that of the bad units
    private static void promise10WrongBad() {
        check.isBetween("bad", Check.ARGUMENT, 0, 20, () -> Planners.articles(1), (x, n) -> x.giveBack(0, 1, n));
        check.isBetween("bad", Check.ARGUMENT, 1, 20, () -> Planners.articles(1), (x, n) -> x.giveBack(0, 0, n));
    }

    // or both are 0
    private static void promise10BothAre0() {
        Pickwave x = Planners.articles(1);
        check.isThrown("both", Check.ARGUMENT, x, () -> x.giveBack(0, 0, 0));
        check.is("the good ones", x.giveBack(0, 0, 1), 0);
        check.is("the bad ones", x.giveBack(0, 1, 0), 1);
    }

    // IllegalStateException if the reserve would be greater than 9999
    private static void promise10ReserveOver9999() {
        Pickwave x = Planners.fullReserve();
        check.isThrownUnseen("10000", Check.STATE, () -> x.giveBack(0, 1, 0));
        check.is("9999", x.reserve(0), 9999);
        check.is("9999 still, as none is good", x.giveBack(0, 0, 20), 0);
        x.order(0, 20, 0);
        x.wave(0);
        x.pick(0, 20);
        check.is("9999 still, as all come to the shelf", x.giveBack(0, 19, 1), 19);
        check.isThrownUnseen("10000, as one comes to the shelf", Check.STATE, () -> x.giveBack(0, 2, 0));
        Pickwave y = Planners.fullReserve(998);
        check.isThrownUnseen("9998 and 2", Check.STATE, () -> y.giveBack(0, 2, 0));
        check.is("9998 and 1", y.giveBack(0, 1, 0), 0);
        check.is("9999", y.reserve(0), 9999);
    }

    // the same sentence, where a robot has made the reserve greater: no call of right numbers makes it less
    private static void promise10ReserveIsOver9999Already() {
        Pickwave x = Planners.reserveOverItsBound();
        check.is("reserve", x.reserve(0), 10000);
        check.isThrownUnseen("none is good", Check.STATE, () -> x.giveBack(0, 0, 1));
        check.is("nothing is written off", x.writtenOff(), 0);
        x.order(0, 20, 0);
        x.wave(0);
        x.pick(1, 20);
        check.isThrownUnseen("all would come to the shelf", Check.STATE, () -> x.giveBack(0, 1, 0));
        x.send(0, 0);
        check.is("a robot makes it less", x.giveBack(0, 1, 0), 1);
    }

    // Returns how many bad units were written off.
    private static void promise11NothingWrittenOff() {
        Pickwave x = Planners.articles(2);
        check.is("at first", x.writtenOff(), 0);
        x.giveBack(0, 20, 0);
        check.is("no bad ones", x.writtenOff(), 0);
        x.giveBack(1, 0, 1);
        check.is("one", x.writtenOff(), 1);
    }

    // IndexOutOfBoundsException if there is no such article
    private static void promise12NoSuchArticle() {
        for (int i : new int[] {0, 1, 6}) {
            isArticleOf(i, "order", (x, n) -> x.order(n, 1, 0));
        }
    }

    // IllegalArgumentException if the amount is not between 1 and 20
    private static void promise12WrongAmount() {
        check.isBetween("amount", Check.ARGUMENT, 1, 20, () -> Planners.articles(1), (x, n) -> x.order(0, n, 0));
    }

    // or there is no such carrier
    private static void promise12NoSuchCarrier() {
        check.isBetween("carrier", Check.ARGUMENT, 0, 2, () -> Planners.articles(1), (x, n) -> x.order(0, 1, n));
    }

    // IllegalStateException if there are 12 orders
    private static void promise12TwelveOrders() {
        check.is("if there are 11", Planners.orders(11).order(0, 1, 0), 11);
        Pickwave x = Planners.orders(12);
        check.isThrownUnseen("if there are 12", Check.STATE, () -> x.order(0, 1, 0));
        x.wave(0);
        x.pick(0, 1);
        x.ship(0);
        x.drop(1);
        check.isThrownUnseen("shipped and dropped ones are there", Check.STATE, () -> x.order(0, 1, 0));
    }

    // Returns how much of its article is free then.
    private static void promise13FreeThen() {
        Pickwave x = Planners.promised(20);
        check.is("nothing is free", x.free(0), 0);
        check.is("all is free", x.drop(0), 20);
        Pickwave y = Planners.promised(20);
        y.order(0, 20, 0);
        check.is("an open one frees nothing", y.drop(1), 0);
        Pickwave z = Planners.oneArticle(0, 5, 5);
        z.order(0, 1, 0);
        check.is("the shelf is empty", z.drop(0), 0);
    }

    // IndexOutOfBoundsException if there is no such order
    private static void promise13NoSuchOrder() {
        isOrder("drop", (x, n) -> x.drop(n));
    }

    private static void isOrder(String what, Check.CallWithNumber call) {
        for (int i : new int[] {0, 1, 12}) {
            int orders = i;
            check.isBetween(what, Check.INDEX, 0, orders - 1, () -> Planners.promisedOrders(orders), call);
        }
    }

    // IllegalStateException if it is neither
    private static void promise13Neither() {
        Pickwave x = Planners.busy();
        check.isThrownUnseen("shipped", Check.STATE, () -> x.drop(0));
        check.isThrownUnseen("picked", Check.STATE, () -> x.drop(1));
        check.isThrownUnseen("dropped", Check.STATE, () -> x.drop(2));
        check.is("promised", x.drop(3), 10);
        check.is("open, in a blocked aisle", x.drop(4), 5);
        check.is("open", x.drop(5), 9);
    }

    // IndexOutOfBoundsException if there is no such order
    private static void promises14To16NoSuchOrder() {
        isOrder("state", (x, n) -> x.state(n));
        isOrder("stateByScans", (x, n) -> x.stateByScans(n));
        isOrder("amount", (x, n) -> x.amount(n));
    }

    // Returns the same state, found from all scans.
    private static void promise15TheSameState() {
        Pickwave x = Planners.busy();
        check.isText("each state", Look.statesByScans(x), "skdpoo");
        check.isText("as it is kept", Look.states(x), "skdpoo");
        x.setBlocked(0, true);
        check.isText("open again", Look.statesByScans(x), "skdooo");
        check.isText("as it is kept", Look.states(x), "skdooo");
    }

    // Returns the number of orders.
    private static void promise17NoOrder() {
        for (int i = 0; i <= 12; i++) {
            check.is("orders", Planners.orders(i).orders(), i);
        }
    }

    // Returns the number of the new order if it is split, otherwise -1.
    private static void promise18OtherwiseMinus1() {
        for (int found = 0; found <= 20; found++) {
            check.is("of 20", Planners.promised(20).pick(0, found), found == 20 ? -1 : 1);
        }
        Pickwave x = Planners.promisedOrders(11);
        check.is("the last number", x.pick(0, 0), 11);
    }

    // IndexOutOfBoundsException if there is no such order
    private static void promise18NoSuchOrder() {
        isOrder("pick", (x, n) -> x.pick(n, 1));
    }

    // IllegalArgumentException if the amount is not between 0 and that of the order
    private static void promise18WrongAmount() {
        for (int i = 1; i <= 20; i++) {
            int amount = i;
            check.isBetween("found of " + amount, Check.ARGUMENT, 0, amount, () -> Planners.promised(amount),
                    (x, n) -> x.pick(0, n));
        }
    }

    // the same sentence, where the amount of the order became 0
    private static void promise18AmountOfADroppedOrder() {
        Pickwave x = Planners.promised(5);
        x.pick(0, 0);
        check.isThrown("1 of 0", Check.ARGUMENT, x, () -> x.pick(0, 1));
        check.isThrown("-1 of 0", Check.ARGUMENT, x, () -> x.pick(0, -1));
        check.isThrown("0 of 0 is right, but it is dropped", Check.STATE, x, () -> x.pick(0, 0));
    }

    // UnsupportedOperationException if its aisle is blocked
    private static void promise18AisleIsBlocked() {
        Pickwave x = Planners.promised(5);
        for (int aisle = 1; aisle < 4; aisle++) {
            x.setBlocked(aisle, true);
        }
        check.is("all others are blocked", x.pick(0, 5), -1);
        Pickwave y = Planners.promised(5);
        y.setBlocked(0, true);
        check.isThrown("its own", Check.UNSUPPORTED, y, () -> y.pick(0, 5));
        y.setBlocked(0, false);
        y.wave(0);
        check.is("its own is open again", y.pick(0, 5), -1);
    }

    // IllegalStateException if it is not promised
    private static void promise18NotPromised() {
        Pickwave x = Planners.busy();
        check.isThrownUnseen("shipped", Check.STATE, () -> x.pick(0, 4));
        check.isThrownUnseen("picked", Check.STATE, () -> x.pick(1, 6));
        check.isThrownUnseen("dropped", Check.STATE, () -> x.pick(2, 5));
        check.isThrownUnseen("open", Check.STATE, () -> x.pick(5, 7));
        check.isThrownUnseen("open, and less is found", Check.STATE, () -> x.pick(5, 0));
        check.is("promised", x.pick(3, 3), -1);
    }

    // or it would be split and there are 12 orders
    private static void promise18SplitOfTwelve() {
        Pickwave x = Planners.oneArticle(50, 0, 99);
        for (int i = 0; i < 11; i++) {
            x.order(0, 2, 0);
        }
        x.wave(0);
        check.is("if there are 11", x.pick(10, 1), 11);
        x.giveBack(0, 20, 0);
        x.giveBack(0, 20, 0);
        x.wave(0);
        check.isThrownUnseen("if there are 12, some are found", Check.STATE, () -> x.pick(0, 1));
        check.isThrownUnseen("if there are 12, none is found", Check.STATE, () -> x.pick(0, 0));
        check.is("it would not be split", x.pick(0, 2), -1);
    }

    // Returns the number of these orders.
    private static void promise19NumberOfTheseOrders() {
        check.is("no order at all", new Pickwave().ship(0), 0);
        for (int picked = 0; picked <= 12; picked++) {
            Pickwave x = Planners.promisedOrders(12);
            for (int i = 0; i < picked; i++) {
                x.pick(i, 1);
            }
            check.is("of 12", x.ship(0), picked);
            check.is("none is left", x.ship(0), 0);
        }
    }

    // IndexOutOfBoundsException if there is no such carrier
    private static void promise19NoSuchCarrier() {
        check.isBetween("carrier", Check.INDEX, 0, 2, Planners::busy, (x, n) -> x.ship(n));
    }
}
