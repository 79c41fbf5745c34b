/** Promises 25 to 30: robots and time. */
public final class RobotsTest {
    private static final Check check = new Check();

    public static void main(String[] args) {
        promise25Load();
        promise25LoadWhateverTheOtherCarries();
        promise25Minutes();
        promise25MinutesAreToldWhenItIsSent();
        promise25WhatIsChecked();
        promise25BlockedAisles();
        promises26To28Readings();
        promises25To28WrongNumbers();
        promise29Bring();
        promise29BothInOneMinute();
        promise29OneAheadOfTheOther();
        promise29WhatHasNoRoom();
        promise29BlockedAisles();
        promise29WrongMinutes();
        promise29LastMinute();
        promise30Minute();
        check.end("RobotsTest");
    }

    private static Pickwave oneArticle(int stock, int reserve, int room) {
        Pickwave x = new Pickwave();
        x.addArticle(0, stock, reserve, room);
        return x;
    }

    private static void promise25Load() {
        loadIs(0, 50, 99, 10);
        loadIs(89, 50, 99, 10);
        loadIs(90, 50, 99, 9);
        loadIs(98, 50, 99, 1);
        loadIs(0, 10, 99, 10);
        loadIs(0, 9, 99, 9);
        loadIs(0, 1, 99, 1);
        loadIs(3, 4, 6, 3);
        loadIs(3, 2, 6, 2);
    }

    private static void loadIs(int stock, int reserve, int room, int due) {
        Pickwave x = oneArticle(stock, reserve, room);
        check.is("minutes", x.send(0, 0), 3);
        check.is("what it carries", x.carried(0), due);
        check.is("it is taken of the reserve", x.reserve(0), reserve - due);
        check.is("the shelf is as it was", x.stock(0), stock);
    }

    private static void promise25LoadWhateverTheOtherCarries() {
        Pickwave x = oneArticle(5, 30, 12);
        x.send(1, 0);
        check.is("the first", x.carried(1), 7);
        x.send(0, 0);
        check.is("the second", x.carried(0), 7);
        check.is("reserve", x.reserve(0), 16);
        Pickwave y = oneArticle(0, 20, 20);
        y.order(0, 5, 0);
        y.giveBack(0, 15, 0);
        y.wave(0);
        y.send(0, 0);
        check.is("what is promised is on the shelf still", y.carried(0), 5);
    }

    private static void promise25Minutes() {
        Pickwave x = new Pickwave();
        for (int aisle = 0; aisle < 4; aisle++) {
            x.addArticle(aisle, 0, 99, 99);
        }
        x.addArticle(2, 0, 99, 99);
        x.setPickers(1, 1);
        x.setPickers(2, 9);
        check.is("no picker", x.send(0, 0), 3);
        check.is("one picker, and the other robot elsewhere", x.send(1, 1), 5);
        x.pass(10);
        check.is("nine pickers", x.send(1, 2), 21);
        check.is("and the other robot with another article", x.send(0, 4), 25);
        x.pass(25);
        x.pass(1);
        check.is("the other robot is idle", x.send(0, 2), 21);
        x.setPickers(2, 0);
        check.is("the other robot, no picker", x.send(1, 2), 7);
    }

    private static void promise25MinutesAreToldWhenItIsSent() {
        Pickwave x = oneArticle(0, 99, 99);
        x.setPickers(0, 2);
        check.is("send", x.send(0, 0), 7);
        x.setPickers(0, 9);
        check.is("more pickers", x.minutesOf(0), 7);
        check.is("send", x.send(1, 0), 25);
        check.is("another robot", x.minutesOf(0), 7);
        check.is("pass", x.pass(7), 10);
        check.is("the other one is idle", x.minutesOf(1), 18);
    }

    /** The article 0 can be fetched, the article 1 has no reserve, the article 2 no room. */
    private static Pickwave threeArticles() {
        Pickwave x = oneArticle(0, 99, 99);
        x.addArticle(1, 0, 0, 9);
        x.addArticle(2, 9, 9, 9);
        return x;
    }

    private static void promise25WhatIsChecked() {
        Pickwave x = threeArticles();
        check.isThrown("no reserve", Check.NO_ELEMENT, x, () -> x.send(0, 1));
        check.isThrown("no room", Check.NO_ELEMENT, x, () -> x.send(0, 2));
        x.send(0, 0);
        check.isThrown("on its way", Check.STATE, x, () -> x.send(0, 0));
        check.isThrown("on its way, and no reserve", Check.STATE, x, () -> x.send(0, 1));
        check.isThrown("on its way, and no room", Check.STATE, x, () -> x.send(0, 2));
    }

    private static void promise25BlockedAisles() {
        Pickwave x = threeArticles();
        x.send(0, 0);
        x.setBlocked(0, true);
        x.setBlocked(1, true);
        check.isThrown("blocked", Check.UNSUPPORTED, x, () -> x.send(1, 0));
        check.isThrown("blocked, and on its way", Check.UNSUPPORTED, x, () -> x.send(0, 0));
        check.isThrown("blocked, and no reserve", Check.UNSUPPORTED, x, () -> x.send(1, 1));
        x.setBlocked(1, false);
        check.isThrown("the aisle is open, the robot's own blocked", Check.STATE, x, () -> x.send(0, 1));
        x.setBlocked(0, false);
        x.pass(3);
        check.is("idle again", x.send(0, 0), 3);
    }

    private static void promises26To28Readings() {
        Pickwave x = oneArticle(0, 99, 99);
        x.addArticle(3, 0, 4, 99);
        for (int robot = 0; robot < 2; robot++) {
            isIdle(x, robot);
        }
        x.send(1, 1);
        isIdle(x, 0);
        check.is("carried(1)", x.carried(1), 4);
        check.is("minutesOf(1)", x.minutesOf(1), 3);
        check.is("aisleOf(1)", x.aisleOf(1), 3);
        x.send(0, 0);
        check.is("carried(0)", x.carried(0), 10);
        check.is("aisleOf(0)", x.aisleOf(0), 0);
        x.pass(2);
        check.is("minutesOf(0)", x.minutesOf(0), 1);
        check.is("minutesOf(1)", x.minutesOf(1), 1);
        check.is("carried(1)", x.carried(1), 4);
        check.is("aisleOf(1)", x.aisleOf(1), 3);
        x.pass(1);
        isIdle(x, 0);
        isIdle(x, 1);
    }

    private static void isIdle(Pickwave x, int robot) {
        check.is("carried(" + robot + ")", x.carried(robot), 0);
        check.is("minutesOf(" + robot + ")", x.minutesOf(robot), 0);
        check.isThrown("aisleOf(" + robot + ")", Check.NO_ELEMENT, x, () -> x.aisleOf(robot));
    }

    private static void promises25To28WrongNumbers() {
        isNoRobot(oneArticle(0, 99, 99), 2);
        isNoArticle(1);
        for (int far : Check.FAR_OFF) {
            isNoRobot(oneArticle(0, 99, 99), far);
            isNoArticle(far);
        }
        Pickwave x = oneArticle(0, 99, 99);
        x.setBlocked(0, true);
        isNoRobot(x, 2);
    }

    private static void isNoArticle(int article) {
        Pickwave x = oneArticle(0, 99, 99);
        check.isThrown("no article", Check.INDEX, x, () -> x.send(0, article));
    }

    private static void isNoRobot(Pickwave x, int robot) {
        check.isThrown("send", Check.INDEX, x, () -> x.send(robot, 0));
        check.isThrown("send, both wrong", Check.INDEX, x, () -> x.send(robot, 1));
        check.isThrown("carried", Check.INDEX, x, () -> x.carried(robot));
        check.isThrown("minutesOf", Check.INDEX, x, () -> x.minutesOf(robot));
        check.isThrown("aisleOf", Check.INDEX, x, () -> x.aisleOf(robot));
    }

    private static void promise29Bring() {
        Pickwave x = oneArticle(0, 25, 99);
        x.addArticle(1, 0, 5, 99);
        check.is("idle robots bring nothing", x.pass(5), 0);
        x.send(0, 0);
        check.is("not yet", x.pass(2), 0);
        check.is("the shelf is as it was", x.stock(0), 0);
        check.is("then", x.pass(1), 10);
        check.is("stock", x.stock(0), 10);
        check.is("reserve", x.reserve(0), 15);
        check.is("only once", x.pass(10), 0);
        x.send(1, 0);
        x.send(0, 1);
        check.is("both of them", x.pass(60), 15);
        check.is("stock", x.stock(0), 20);
        check.is("stock", x.stock(1), 5);
        x.order(0, 20, 0);
        check.is("it can be promised", x.wave(0), 1);
    }

    /** Which of them comes first then, nobody can see: the sums are the same. */
    private static void promise29BothInOneMinute() {
        Pickwave x = oneArticle(0, 12, 10);
        x.setPickers(0, 2);
        check.is("two pickers", x.send(1, 0), 7);
        x.setPickers(0, 0);
        check.is("no picker, but the other robot", x.send(0, 0), 7);
        check.is("carried(1)", x.carried(1), 10);
        check.is("carried(0)", x.carried(0), 2);
        check.is("not yet", x.pass(6), 0);
        check.is("as far as the shelf has room", x.pass(1), 10);
        check.is("stock", x.stock(0), 10);
        check.is("reserve", x.reserve(0), 2);
    }

    private static void promise29OneAheadOfTheOther() {
        Pickwave x = oneArticle(0, 12, 10);
        x.send(1, 0);
        x.send(0, 0);
        check.is("the robot 1 comes first", x.pass(3), 10);
        check.is("the robot 0 is on its way", x.minutesOf(0), 4);
        check.is("no room for its load", x.pass(4), 0);
        check.is("reserve", x.reserve(0), 2);
    }

    private static void promise29WhatHasNoRoom() {
        Pickwave x = oneArticle(5, 50, 12);
        x.send(0, 0);
        check.is("carried", x.carried(0), 7);
        x.giveBack(0, 4, 0);
        check.is("as far as the shelf has room", x.pass(3), 3);
        check.is("stock", x.stock(0), 12);
        check.is("the reserve otherwise", x.reserve(0), 47);
        check.is("it is idle", x.carried(0), 0);
        x.order(0, 12, 0);
        x.wave(0);
        x.pick(0, 12);
        x.send(0, 0);
        x.send(1, 0);
        check.is("both carry the most", x.carried(0) + x.carried(1), 20);
        check.is("ten, then two", x.pass(7), 12);
        check.is("stock", x.stock(0), 12);
        check.is("reserve", x.reserve(0), 35);
    }

    private static void promise29BlockedAisles() {
        Pickwave x = oneArticle(0, 50, 99);
        x.addArticle(1, 0, 50, 99);
        x.send(0, 0);
        x.send(1, 1);
        x.pass(1);
        x.setBlocked(0, true);
        check.is("the other one goes on", x.pass(30), 10);
        check.is("it stands", x.minutesOf(0), 2);
        check.is("it carries it still", x.carried(0), 10);
        check.is("in its aisle", x.aisleOf(0), 0);
        check.is("the minute passes", x.minute(), 31);
        x.setBlocked(0, false);
        check.is("one more", x.pass(1), 0);
        check.is("it is there", x.pass(1), 10);
    }

    private static void promise29WrongMinutes() {
        Pickwave x = oneArticle(0, 50, 99);
        x.send(0, 0);
        check.isThrown("0", Check.ARGUMENT, x, () -> x.pass(0));
        check.isThrown("61", Check.ARGUMENT, x, () -> x.pass(61));
        for (int far : Check.FAR_OFF) {
            check.isThrown("far off", Check.ARGUMENT, x, () -> x.pass(far));
        }
        check.is("1", x.pass(1), 0);
        check.is("60", x.pass(60), 10);
        check.is("minute()", x.minute(), 61);
    }

    private static void promise29LastMinute() {
        Pickwave x = oneArticle(0, 50, 99);
        for (int i = 0; i < 23; i++) {
            x.pass(60);
        }
        x.send(0, 0);
        check.is("minute()", x.minute(), 1380);
        check.isThrown("1440", Check.ARGUMENT, x, () -> x.pass(60));
        check.is("1439", x.pass(59), 10);
        check.is("minute()", x.minute(), 1439);
        check.isThrown("one more", Check.ARGUMENT, x, () -> x.pass(1));
        check.is("the cut-off is not over", x.minutesLeft(0), 0);
        check.is("a wave at the last minute", x.wave(0), 0);
    }

    private static void promise30Minute() {
        Pickwave x = new Pickwave();
        check.is("at first", x.minute(), 0);
        x.pass(1);
        check.is("then", x.minute(), 1);
        x.pass(60);
        check.is("then", x.minute(), 61);
        x.wave(0);
        x.setCutOff(0, 5);
        check.is("only pass lets minutes pass", x.minute(), 61);
    }
}
