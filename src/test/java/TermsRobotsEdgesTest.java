/** The edges in 'Terms': robots, returns and time. Above each test stands its sentence. */
public final class TermsRobotsEdgesTest {
    private static final Check check = new Check();

    public static void main(String[] args) {
        twoRobotsIdleAtFirst();
        asMuchOfTheReserve();
        asItsShelfHasRoomFor();
        whateverTheOtherRobotCarries();
        atMost10Units();
        threeMinutes();
        twoMoreForEachPicker();
        fourMoreForTheOtherRobot();
        toldWhenItIsSent();
        whenItsMinutesHavePassed();
        toTheShelfAsFarAsThisHasRoom();
        toTheReserveOtherwise();
        thenItIsIdle();
        inABlockedAisleItStands();
        goodOnesToTheShelf();
        goodOnesToTheReserveOtherwise();
        badOnesAreWrittenOff();
        minuteIs0AtFirst();
        minute1439IsTheLast();
        minuteIncreasesBy1();
        robot0First();
        check.end("TermsRobotsEdgesTest");
    }

    // There are 2 robots, 0 and 1, each of them idle at first
    private static void twoRobotsIdleAtFirst() {
        Pickwave x = Planners.oneArticle(0, 50, 99);
        for (int i = 0; i < 2; i++) {
            int robot = i;
            isIdle(x, robot);
            x.send(robot, 0);
            check.is("it carries", x.carried(robot), 10);
        }
        check.isThrown("-1", Check.INDEX, x, () -> x.carried(-1));
        check.isThrown("2", Check.INDEX, x, () -> x.carried(2));
    }

    private static void isIdle(Pickwave x, int robot) {
        check.is("it carries nothing", x.carried(robot), 0);
        check.is("no minutes", x.minutesOf(robot), 0);
        check.isThrown("no aisle", Check.NO_ELEMENT, x, () -> x.aisleOf(robot));
    }

    // takes as much of the reserve of an article
    private static void asMuchOfTheReserve() {
        for (int reserve = 1; reserve <= 12; reserve++) {
            loadIs(0, reserve, 99, Math.min(reserve, 10));
        }
        Pickwave x = Planners.oneArticle(0, 0, 99);
        check.isThrown("none", Check.NO_ELEMENT, x, () -> x.send(0, 0));
    }

    // as its shelf has room for beyond its stock
    private static void asItsShelfHasRoomFor() {
        for (int stock = 87; stock <= 98; stock++) {
            loadIs(stock, 999, 99, Math.min(99 - stock, 10));
        }
        loadIs(0, 999, 1, 1);
        Pickwave x = Planners.oneArticle(99, 999, 99);
        check.isThrown("none", Check.NO_ELEMENT, x, () -> x.send(0, 0));
    }

    private static void loadIs(int stock, int reserve, int room, int due) {
        Pickwave x = Planners.oneArticle(stock, reserve, room);
        x.send(1, 0);
        check.is("what it carries", x.carried(1), due);
        check.is("what is left of the reserve", x.reserve(0), reserve - due);
        check.is("the shelf is as it was", x.stock(0), stock);
    }

    // whatever the other robot carries
    private static void whateverTheOtherRobotCarries() {
        Pickwave x = Planners.oneArticle(8, 4, 9);
        x.send(0, 0);
        x.send(1, 0);
        check.is("the first, for the last place", x.carried(0), 1);
        check.is("the second, for the same place", x.carried(1), 1);
        check.is("reserve", x.reserve(0), 2);
        Pickwave y = Planners.oneArticle(0, 1, 9);
        y.send(0, 0);
        check.isThrown("it took all of the reserve", Check.NO_ELEMENT, y, () -> y.send(1, 0));
    }

    // at most 10 units
    private static void atMost10Units() {
        loadIs(0, 9, 9, 9);
        loadIs(0, 10, 10, 10);
        loadIs(0, 11, 11, 10);
        loadIs(0, 999, 99, 10);
    }

    // goes for some minutes: 3
    private static void threeMinutes() {
        Pickwave x = Planners.articles(4);
        check.is("no picker, no other robot", x.send(0, 0), 3);
        x.pass(2);
        check.is("not yet", x.minutesOf(0), 1);
        x.pass(1);
        check.is("there", x.minutesOf(0), 0);
    }

    // and 2 more for each picker in its aisle
    private static void twoMoreForEachPicker() {
        for (int pickers = 0; pickers <= 9; pickers++) {
            Pickwave x = Planners.articles(2);
            x.setPickers(0, pickers);
            x.setPickers(1, 9 - pickers);
            check.is("pickers of its aisle alone", x.send(0, 0), 3 + 2 * pickers);
        }
    }

    // and 4 more if the other robot is on its way in the same aisle
    private static void fourMoreForTheOtherRobot() {
        Pickwave x = Planners.articles(5);
        x.send(1, 4);
        check.is("another aisle", x.send(0, 1), 3);
        x.pass(2);
        check.is("not yet idle", x.minutesOf(0), 1);
        x.pass(1);
        check.is("idle now, and the same aisle", x.send(1, 0), 3);
        check.is("on its way in the same aisle", x.send(0, 4), 7);
        x.pass(2);
        check.is("one minute ahead of its end", x.minutesOf(1), 1);
        x.pass(1);
        x.setPickers(0, 9);
        check.is("with nine pickers", x.send(1, 0), 3 + 18 + 4);
        for (int aisle = 0; aisle < 4; aisle++) {
            Pickwave y = Planners.articles(4);
            y.send(0, aisle);
            check.is("in each aisle", y.send(1, aisle), 7);
        }
    }

    // these are told when it is sent
    private static void toldWhenItIsSent() {
        Pickwave x = Planners.oneArticle(0, 50, 99);
        x.setPickers(0, 1);
        check.is("send", x.send(0, 0), 5);
        check.is("minutesOf", x.minutesOf(0), 5);
        x.setPickers(0, 9);
        x.send(1, 0);
        check.is("pickers and the other robot that come later", x.minutesOf(0), 5);
        x.pass(4);
        x.setPickers(0, 0);
        check.is("pickers that go later", x.minutesOf(1), 25 - 4);
        check.is("then it is there", x.pass(1), 10);
        check.is("the other one goes on alone", x.minutesOf(1), 25 - 5);
        check.is("not ahead of its minutes", x.pass(19), 0);
        check.is("then it is there", x.pass(1), 10);
    }

    // When its minutes have passed, what it carries comes
    private static void whenItsMinutesHavePassed() {
        for (int pickers = 0; pickers <= 9; pickers++) {
            Pickwave x = Planners.oneArticle(0, 50, 99);
            x.setPickers(0, pickers);
            int minutes = x.send(0, 0);
            check.is("one minute ahead", x.pass(minutes - 1), 0);
            check.is("stock", x.stock(0), 0);
            check.is("then", x.pass(1), 10);
            check.is("stock", x.stock(0), 10);
            check.is("nothing comes twice", x.pass(60), 0);
        }
    }

    // to the shelf as far as this has room
    private static void toTheShelfAsFarAsThisHasRoom() {
        for (int taken = 0; taken <= 12; taken++) {
            Pickwave x = robotWithTenAndRoomFor(12 - taken);
            check.is("to the shelf", x.pass(3), Math.min(10, 12 - taken));
            check.is("stock", x.stock(0), Math.min(12, taken + 10));
        }
    }

    // and to the reserve otherwise
    private static void toTheReserveOtherwise() {
        for (int room = 0; room <= 12; room++) {
            Pickwave x = robotWithTenAndRoomFor(room);
            check.is("its load is off the reserve", x.reserve(0), 40);
            x.pass(3);
            check.is("reserve", x.reserve(0), 40 + Math.max(0, 10 - room));
        }
    }

    /** A robot with 10 units three minutes ahead of a shelf of 12, which is filled while it goes. */
    private static Pickwave robotWithTenAndRoomFor(int room) {
        Pickwave x = Planners.oneArticle(0, 50, 12);
        x.send(0, 0);
        if (room < 12) {
            x.giveBack(0, 12 - room, 0);
        }
        check.is("what it carries", x.carried(0), 10);
        return x;
    }

    // and it is idle
    private static void thenItIsIdle() {
        for (int i = 0; i < 2; i++) {
            int robot = i;
            Pickwave x = Planners.oneArticle(0, 50, 99);
            x.send(robot, 0);
            x.pass(2);
            check.isThrown("on its way", Check.STATE, x, () -> x.send(robot, 0));
            x.pass(1);
            isIdle(x, robot);
            check.is("it can be sent", x.send(robot, 0), 3);
        }
    }

    // A robot in an aisle that is blocked stands: its minutes do not pass.
    private static void inABlockedAisleItStands() {
        Pickwave x = Planners.articles(2);
        x.send(0, 0);
        x.send(1, 1);
        x.setBlocked(0, true);
        check.is("only the other one passes", x.pass(60), 10);
        check.is("all its minutes are left", x.minutesOf(0), 3);
        check.is("its load, too", x.carried(0), 10);
        check.is("and its aisle", x.aisleOf(0), 0);
        x.setBlocked(0, false);
        x.pass(2);
        x.setBlocked(0, true);
        check.is("one minute ahead of its shelf", x.pass(60), 0);
        check.is("minutesOf", x.minutesOf(0), 1);
        x.setBlocked(0, false);
        check.is("no call but pass lets it go", x.minutesOf(0), 1);
        check.is("then", x.pass(1), 10);
    }

    // good ones come to the shelf of the article as far as it has room
    private static void goodOnesToTheShelf() {
        for (int good = 1; good <= 20; good++) {
            Pickwave x = Planners.oneArticle(2, 0, 12);
            check.is("to the shelf", x.giveBack(0, good, 0), Math.min(good, 10));
            check.is("stock", x.stock(0), 2 + Math.min(good, 10));
        }
    }

    // and to its reserve otherwise
    private static void goodOnesToTheReserveOtherwise() {
        for (int good = 1; good <= 20; good++) {
            Pickwave x = Planners.oneArticle(2, 7, 12);
            x.giveBack(0, good, 0);
            check.is("reserve", x.reserve(0), 7 + Math.max(0, good - 10));
        }
    }

    // bad ones are written off
    private static void badOnesAreWrittenOff() {
        for (int bad = 0; bad <= 20; bad++) {
            Pickwave x = Planners.oneArticle(2, 7, 12);
            check.is("good ones alone", x.giveBack(0, 1, bad), 1);
            check.is("writtenOff", x.writtenOff(), bad);
            check.is("stock", x.stock(0), 3);
            check.is("reserve", x.reserve(0), 7);
        }
    }

    // The minute is 0 at first
    private static void minuteIs0AtFirst() {
        check.is("minute", new Pickwave().minute(), 0);
    }

    // 1439 is the last one
    private static void minute1439IsTheLast() {
        Pickwave x = Planners.atMinute(1438);
        check.isThrown("1440", Check.ARGUMENT, x, () -> x.pass(2));
        check.is("pass", x.pass(1), 0);
        check.is("1439", x.minute(), 1439);
        check.isThrown("behind the last one", Check.ARGUMENT, x, () -> x.pass(1));
    }

    // When a minute passes, it increases by 1, and then the minutes of the robots pass
    private static void minuteIncreasesBy1() {
        for (int minutes = 1; minutes <= 60; minutes++) {
            Pickwave x = Planners.oneArticle(0, 50, 99);
            x.setPickers(0, 9);
            x.send(0, 0);
            x.pass(minutes);
            check.is("minute", x.minute(), minutes);
            check.is("minutesOf", x.minutesOf(0), Math.max(0, 21 - minutes));
        }
    }

    // that of the robot 0 first: both come in one minute to a shelf that has room for one of them
    private static void robot0First() {
        Pickwave x = Planners.oneArticle(0, 12, 10);
        x.setPickers(0, 2);
        check.is("the robot 1", x.send(1, 0), 7);
        x.setPickers(0, 0);
        check.is("the robot 0", x.send(0, 0), 7);
        check.is("not yet", x.pass(6), 0);
        check.is("both in one minute", x.pass(1), 10);
        check.is("what had no room", x.reserve(0), 2);
        isIdle(x, 0);
        isIdle(x, 1);
    }
}
