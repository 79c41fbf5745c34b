/** Promises 1 to 11: a new object, articles and aisles. */
public final class ArticlesTest {
    private static final Check check = new Check();

    public static void main(String[] args) {
        promise1NewObject();
        promise2AddArticle();
        promise2WrongArticles();
        promise2MostArticles();
        promises3To7Readings();
        promises3To7WrongNumbers();
        promises5To7WhatIsPromised();
        promise8SetBlocked();
        promise8OrdersOfABlockedAisle();
        promise9SetPickers();
        promise10GiveBack();
        promise10WrongUnits();
        promise10MostReserve();
        promise10ReserveThatARobotBroughtOverItsBound();
        promise11WrittenOff();
        check.end("ArticlesTest");
    }

    private static void promise1NewObject() {
        Pickwave x = new Pickwave();
        check.isThrown("stock(0) of a new one", Check.INDEX, x, () -> x.stock(0));
        check.isThrown("state(0) of a new one", Check.INDEX, x, () -> x.state(0));
        check.isThrown("shippedShare() of a new one", Check.NO_ELEMENT, x, () -> x.shippedShare());
        check.is("orders()", x.orders(), 0);
        check.is("waves()", x.waves(), 0);
        check.is("scans()", x.scans(), 0);
        check.is("minute()", x.minute(), 0);
        check.is("writtenOff()", x.writtenOff(), 0);
        check.is("shipped()", x.shipped(), 0);
        for (int aisle = 0; aisle < 4; aisle++) {
            check.isTrue("no aisle is blocked at first", !x.setBlocked(aisle, false));
            check.is("pickers at first", x.setPickers(aisle, 1), 0);
        }
        for (int carrier = 0; carrier < 3; carrier++) {
            check.is("minutesLeft at first", x.minutesLeft(carrier), 1439);
        }
        Pickwave other = new Pickwave();
        other.addArticle(0, 1, 1, 1);
        check.isThrown("one object knows nothing of another", Check.INDEX, x, () -> x.stock(0));
    }

    private static void promise2AddArticle() {
        Pickwave x = new Pickwave();
        check.is("least of all", x.addArticle(0, 0, 0, 1), 0);
        check.is("most of all", x.addArticle(3, 99, 999, 99), 1);
        check.is("an ordinary one", x.addArticle(2, 10, 25, 12), 2);
        check.is("stock(0)", x.stock(0), 0);
        check.is("stock(1)", x.stock(1), 99);
        check.is("reserve(1)", x.reserve(1), 999);
        check.is("stock(2)", x.stock(2), 10);
        check.is("reserve(2)", x.reserve(2), 25);
        check.is("the room is 12", x.giveBack(2, 20, 0), 2);
        x.send(0, addArticleIn(x, 1));
        check.is("aisleOf(0)", x.aisleOf(0), 1);
        x.send(1, addArticleIn(x, 3));
        check.is("aisleOf(1)", x.aisleOf(1), 3);
    }

    private static int addArticleIn(Pickwave x, int aisle) {
        return x.addArticle(aisle, 0, 1, 1);
    }

    private static void promise2WrongArticles() {
        isRefused(-1, 1, 1, 5);
        isRefused(4, 1, 1, 5);
        isRefused(0, 0, 1, 0);
        isRefused(0, 1, 1, 100);
        isRefused(0, 0, 1, -5);
        isRefused(0, -1, 1, 5);
        isRefused(0, 6, 1, 5);
        isRefused(0, 1, -1, 5);
        isRefused(0, 1, 1000, 5);
        for (int far : Check.FAR_OFF) {
            isRefused(far, 1, 1, 5);
            isRefused(0, far, 1, 5);
            isRefused(0, 1, far, 5);
            isRefused(0, 0, 1, far);
        }
    }

    private static void isRefused(int aisle, int stock, int reserve, int room) {
        Pickwave x = new Pickwave();
        String what = "addArticle(" + aisle + ", " + stock + ", " + reserve + ", " + room + ")";
        check.isThrown(what, Check.ARGUMENT, x, () -> x.addArticle(aisle, stock, reserve, room));
        check.is("none was added", x.addArticle(0, 5, 0, 5), 0);
    }

    private static void promise2MostArticles() {
        Pickwave x = new Pickwave();
        for (int i = 0; i < 6; i++) {
            check.is("addArticle", x.addArticle(i % 4, i, i, 10), i);
        }
        check.isThrown("the seventh", Check.STATE, x, () -> x.addArticle(0, 1, 1, 5));
        check.isThrown("a wrong seventh", Check.ARGUMENT, x, () -> x.addArticle(4, 1, 1, 5));
        check.isThrown("a seventh without room", Check.ARGUMENT, x, () -> x.addArticle(0, 0, 1, 0));
        check.is("the sixth", x.stock(5), 5);
    }

    private static void promises3To7Readings() {
        Pickwave x = new Pickwave();
        x.addArticle(0, 10, 25, 12);
        x.addArticle(1, 3, 7, 5);
        check.is("stock(0)", x.stock(0), 10);
        check.is("stock(1)", x.stock(1), 3);
        check.is("reserve(0)", x.reserve(0), 25);
        check.is("reserve(1)", x.reserve(1), 7);
        check.is("free(0)", x.free(0), 10);
        check.is("free(1)", x.free(1), 3);
        check.is("promised(0)", x.promised(0), 0);
        check.is("promisedByScans(0)", x.promisedByScans(0), 0);
    }

    private static void promises3To7WrongNumbers() {
        areNoArticle(2);
        for (int far : Check.FAR_OFF) {
            areNoArticle(far);
        }
    }

    private static void areNoArticle(int article) {
        Pickwave x = new Pickwave();
        x.addArticle(0, 10, 25, 12);
        x.addArticle(0, 10, 25, 12);
        check.isThrown("stock", Check.INDEX, x, () -> x.stock(article));
        check.isThrown("reserve", Check.INDEX, x, () -> x.reserve(article));
        check.isThrown("free", Check.INDEX, x, () -> x.free(article));
        check.isThrown("promised", Check.INDEX, x, () -> x.promised(article));
        check.isThrown("promisedByScans", Check.INDEX, x, () -> x.promisedByScans(article));
    }

    private static void promises5To7WhatIsPromised() {
        Pickwave x = new Pickwave();
        x.addArticle(0, 10, 0, 12);
        x.addArticle(1, 8, 0, 12);
        x.order(0, 4, 0);
        x.order(0, 3, 0);
        x.order(1, 5, 0);
        x.order(0, 1, 1);
        promisedIs(x, 0, 0, 10);
        x.wave(0);
        promisedIs(x, 0, 7, 3);
        promisedIs(x, 1, 5, 3);
        x.pick(0, 4);
        promisedIs(x, 0, 3, 3);
        check.is("stock less what was picked", x.stock(0), 6);
        x.ship(0);
        promisedIs(x, 0, 3, 3);
        x.wave(1);
        promisedIs(x, 0, 4, 2);
        x.drop(1);
        promisedIs(x, 0, 1, 5);
        x.setBlocked(1, true);
        promisedIs(x, 1, 0, 8);
        x.setBlocked(1, false);
        x.wave(0);
        x.pick(2, 2);
        promisedIs(x, 1, 0, 0);
    }

    private static void promisedIs(Pickwave x, int article, int sum, int free) {
        check.is("promised(" + article + ")", x.promised(article), sum);
        check.is("promisedByScans(" + article + ")", x.promisedByScans(article), sum);
        check.is("free(" + article + ")", x.free(article), free);
    }

    private static void promise8SetBlocked() {
        Pickwave x = new Pickwave();
        for (int aisle = 0; aisle < 4; aisle++) {
            check.isTrue("open at first", !x.setBlocked(aisle, true));
            check.isTrue("blocked then", x.setBlocked(aisle, true));
            check.isTrue("blocked still", x.setBlocked(aisle, false));
            check.isTrue("open again", !x.setBlocked(aisle, false));
        }
        isNoAisle(4);
        for (int far : Check.FAR_OFF) {
            isNoAisle(far);
        }
    }

    private static void isNoAisle(int aisle) {
        Pickwave x = new Pickwave();
        check.isThrown("setBlocked(" + aisle + ")", Check.INDEX, x, () -> x.setBlocked(aisle, true));
        check.isThrown("setPickers(" + aisle + ")", Check.INDEX, x, () -> x.setPickers(aisle, 1));
        check.isThrown("setPickers, both wrong", Check.INDEX, x, () -> x.setPickers(aisle, 10));
    }

    private static void promise8OrdersOfABlockedAisle() {
        Pickwave x = new Pickwave();
        x.addArticle(0, 20, 0, 20);
        x.addArticle(1, 20, 0, 20);
        x.addArticle(0, 20, 0, 20);
        x.order(2, 3, 0);
        x.order(1, 2, 0);
        x.order(0, 1, 1);
        x.order(0, 4, 0);
        x.order(0, 5, 0);
        x.wave(0);
        x.wave(1);
        x.pick(3, 4);
        String before = Look.scans(x);
        x.setBlocked(0, true);
        check.isText("only what was promised there is open", Look.states(x), "opoko");
        check.isText("by rising numbers", Look.scans(x), before + " 0u 2u 4u");
        x.setBlocked(0, true);
        check.isText("nothing is opened twice", Look.scans(x), before + " 0u 2u 4u");
        x.setBlocked(0, false);
        check.isText("opening scans nothing", Look.scans(x), before + " 0u 2u 4u");
        check.isText("nor promises it", Look.states(x), "opoko");
        x.setBlocked(1, false);
        check.isText("opening an open aisle", Look.states(x), "opoko");
        check.is("the wave that promised it is told still", x.waveOf(2), 1);
    }

    private static void promise9SetPickers() {
        Pickwave x = new Pickwave();
        check.is("at first", x.setPickers(0, 9), 0);
        check.is("then", x.setPickers(0, 0), 9);
        check.is("then", x.setPickers(0, 4), 0);
        check.is("another aisle", x.setPickers(3, 1), 0);
        check.isThrown("-1", Check.ARGUMENT, x, () -> x.setPickers(0, -1));
        check.isThrown("10", Check.ARGUMENT, x, () -> x.setPickers(0, 10));
        for (int far : Check.FAR_OFF) {
            check.isThrown("far off", Check.ARGUMENT, x, () -> x.setPickers(0, far));
        }
        check.is("as before", x.setPickers(0, 4), 4);
    }

    private static void promise10GiveBack() {
        Pickwave x = new Pickwave();
        x.addArticle(0, 10, 25, 12);
        check.is("as far as it has room", x.giveBack(0, 5, 3), 2);
        check.is("stock", x.stock(0), 12);
        check.is("reserve", x.reserve(0), 28);
        check.is("no room", x.giveBack(0, 20, 0), 0);
        check.is("reserve", x.reserve(0), 48);
        x.addArticle(1, 0, 0, 20);
        check.is("none good", x.giveBack(1, 0, 20), 0);
        check.is("stock", x.stock(1), 0);
        check.is("all of it", x.giveBack(1, 20, 20), 20);
        check.is("stock", x.stock(1), 20);
        check.is("reserve", x.reserve(1), 0);
        check.is("the other article", x.stock(0), 12);
    }

    private static void promise10WrongUnits() {
        Pickwave x = new Pickwave();
        x.addArticle(0, 10, 25, 12);
        check.isThrown("both 0", Check.ARGUMENT, x, () -> x.giveBack(0, 0, 0));
        check.isThrown("21 good", Check.ARGUMENT, x, () -> x.giveBack(0, 21, 0));
        check.isThrown("21 bad", Check.ARGUMENT, x, () -> x.giveBack(0, 0, 21));
        check.isThrown("-1 and 1", Check.ARGUMENT, x, () -> x.giveBack(0, -1, 1));
        check.isThrown("1 and -1", Check.ARGUMENT, x, () -> x.giveBack(0, 1, -1));
        check.isThrown("no article", Check.INDEX, x, () -> x.giveBack(1, 1, 1));
        check.isThrown("no article, both 0", Check.INDEX, x, () -> x.giveBack(-1, 0, 0));
        for (int far : Check.FAR_OFF) {
            Pickwave y = Planners.articles(1);
            check.isThrown("far off", Check.ARGUMENT, y, () -> y.giveBack(0, far, 1));
            check.isThrown("far off", Check.ARGUMENT, y, () -> y.giveBack(0, 1, far));
            check.isThrown("far off", Check.INDEX, y, () -> y.giveBack(far, 1, 1));
        }
    }

    private static void promise10MostReserve() {
        Pickwave x = fullReserve();
        check.isThrownUnseen("one more", Check.STATE, () -> x.giveBack(0, 1, 0));
        check.isThrownUnseen("one more, and bad ones", Check.STATE, () -> x.giveBack(0, 1, 5));
        check.isThrownUnseen("a wrong number comes first", Check.ARGUMENT, () -> x.giveBack(0, 21, 0));
        check.is("reserve", x.reserve(0), 9999);
        check.is("stock", x.stock(0), 30);
        check.is("writtenOff()", x.writtenOff(), 0);
        check.is("bad ones alone", x.giveBack(0, 0, 1), 0);
        check.is("writtenOff()", x.writtenOff(), 1);
        x.order(0, 1, 0);
        x.wave(0);
        x.pick(0, 1);
        check.isThrownUnseen("the shelf takes one, not two", Check.STATE, () -> x.giveBack(0, 2, 0));
        check.is("the shelf takes one", x.giveBack(0, 1, 0), 1);
        check.is("reserve", x.reserve(0), 9999);
    }

    /** A full shelf of 30, and the most that a reserve may be by returns. */
    private static Pickwave fullReserve() {
        Pickwave x = new Pickwave();
        x.addArticle(0, 30, 999, 30);
        for (int i = 0; i < 450; i++) {
            check.is("no room", x.giveBack(0, 20, 0), 0);
        }
        check.is("the most", x.reserve(0), 9999);
        return x;
    }

    private static void promise10ReserveThatARobotBroughtOverItsBound() {
        Pickwave x = fullReserve();
        x.order(0, 10, 0);
        x.wave(0);
        x.pick(0, 10);
        x.send(0, 0);
        check.is("half of it to the shelf", x.giveBack(0, 20, 0), 10);
        check.is("reserve", x.reserve(0), 9999);
        check.is("the robot finds no room", x.pass(3), 0);
        check.is("its load is not lost", x.reserve(0), 10009);
        check.isThrownUnseen("it would be greater still", Check.STATE, () -> x.giveBack(0, 0, 1));
        check.is("writtenOff()", x.writtenOff(), 0);
    }

    private static void promise11WrittenOff() {
        Pickwave x = new Pickwave();
        x.addArticle(0, 0, 0, 10);
        x.addArticle(1, 0, 0, 10);
        x.giveBack(0, 5, 0);
        check.is("good ones are not", x.writtenOff(), 0);
        x.giveBack(0, 5, 3);
        x.giveBack(1, 0, 20);
        check.is("of all articles", x.writtenOff(), 23);
        check.is("bad ones come to no shelf", x.stock(1), 0);
        check.is("nor to a reserve", x.reserve(1), 0);
    }
}
