/** Planners that stand at an edge, or in the midst of work. */
final class Planners {
    private Planners() {
    }

    /** The article 0, in the aisle 0. */
    static Pickwave oneArticle(int stock, int reserve, int room) {
        Pickwave x = new Pickwave();
        x.addArticle(0, stock, reserve, room);
        return x;
    }

    static Pickwave articles(int number) {
        Pickwave x = new Pickwave();
        for (int i = 0; i < number; i++) {
            x.addArticle(i % 4, 10, 50, 60);
        }
        return x;
    }

    /** Open orders of one unit for the article 0, all of the carrier 0; the shelf has enough. */
    static Pickwave orders(int number) {
        Pickwave x = oneArticle(50, 50, 99);
        for (int i = 0; i < number; i++) {
            x.order(0, 1, 0);
        }
        return x;
    }

    static Pickwave promisedOrders(int number) {
        Pickwave x = orders(number);
        x.wave(0);
        return x;
    }

    static Pickwave waves(int number) {
        Pickwave x = oneArticle(50, 50, 99);
        for (int i = 0; i < number; i++) {
            x.wave(i % 3);
        }
        return x;
    }

    /** One order, the order 0, with just its amount on the shelf. */
    static Pickwave promised(int amount) {
        Pickwave x = oneArticle(amount, 0, 20);
        x.order(0, amount, 0);
        x.wave(0);
        return x;
    }

    static Pickwave atMinute(int minute) {
        Pickwave x = oneArticle(0, 50, 99);
        while (x.minute() < minute) {
            x.pass(Math.min(60, minute - x.minute()));
        }
        return x;
    }

    /** A full shelf of 30 and a reserve of 9999, the most that returns may make of it. */
    static Pickwave fullReserve() {
        return fullReserve(999);
    }

    /** The same, with less in the reserve where it was less at first. */
    static Pickwave fullReserve(int reserveAtFirst) {
        Pickwave x = oneArticle(30, reserveAtFirst, 30);
        for (int i = 0; i < 450; i++) {
            x.giveBack(0, 20, 0);
        }
        return x;
    }

    /** A reserve of 10000 and a full shelf: a robot found no room for the one unit that it carried. */
    static Pickwave reserveOverItsBound() {
        Pickwave x = fullReserve();
        x.order(0, 1, 0);
        x.wave(0);
        x.pick(0, 1);
        x.send(0, 0);
        x.giveBack(0, 2, 0);
        x.pass(3);
        return x;
    }

    /**
     * Orders in each state (0 shipped, 1 picked, 2 dropped, 3 promised with 3 units, 4 and 5 open), the
     * robot 0 one minute ahead of its shelf, the aisle 3 blocked, the cut-off of the carrier 2 over, the
     * article 1 without reserve, the article 2 without room, the minute 6.
     */
    static Pickwave busy() {
        Pickwave x = new Pickwave();
        x.addArticle(0, 20, 40, 30);
        x.addArticle(1, 9, 0, 12);
        x.addArticle(2, 9, 9, 9);
        x.addArticle(3, 5, 30, 20);
        x.setPickers(0, 2);
        x.setPickers(3, 1);
        x.giveBack(1, 0, 3);
        x.order(0, 4, 0);
        x.order(0, 6, 0);
        x.order(1, 5, 1);
        x.order(0, 3, 1);
        x.order(3, 2, 0);
        x.order(2, 7, 2);
        x.wave(0);
        x.wave(1);
        x.pick(0, 4);
        x.ship(0);
        x.pick(1, 6);
        x.drop(2);
        x.setBlocked(3, true);
        x.setCutOff(2, 5);
        x.send(0, 0);
        x.pass(6);
        return x;
    }

    static Pickwave busyWithSixArticles() {
        Pickwave x = busy();
        x.addArticle(2, 1, 1, 1);
        x.addArticle(1, 2, 2, 2);
        return x;
    }

    static Pickwave busyWithTwelveOrders() {
        Pickwave x = busy();
        while (x.orders() < 12) {
            x.order(1, 1, 1);
        }
        return x;
    }

    static Pickwave busyWithTwentyWaves() {
        Pickwave x = busy();
        while (x.waves() < 20) {
            x.wave(1);
        }
        return x;
    }

    static Pickwave busyAtTheLastMinute() {
        Pickwave x = busy();
        while (x.minute() < 1439) {
            x.pass(Math.min(60, 1439 - x.minute()));
        }
        return x;
    }
}
