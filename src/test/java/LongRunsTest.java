/**
 * Long runs of calls with right and wrong numbers, the same at every start:
 * what must hold after each call, whatever came before it.
 */
public final class LongRunsTest {
    private static final int RUNS = 150;
    private static final int CALLS = 512;
    private static final int KINDS = 13;
    private static final int THROWN = -2;

    private static final Check check = new Check();

    private final Pickwave x = new Pickwave();
    private final int[] articleOf = new int[12];
    private long seed;
    private int articles;
    private int unitsDue;
    private int badDue;
    private int wavesDue;
    private int minuteDue;

    private LongRunsTest(long seed) {
        this.seed = seed;
    }

    private interface Call {
        int answer();
    }

    public static void main(String[] args) {
        for (int run = 0; run < RUNS; run++) {
            new LongRunsTest(run).run();
        }
        check.end("LongRunsTest");
    }

    private void run() {
        for (int i = 0; i < CALLS; i++) {
            callOneOf(i < 3 ? 0 : upTo(KINDS));
            nothingIsPromisedTwice();
            unitsAreNotLost();
            sumsAreOfTheShippedOrders();
            check.isText("the states by all scans", Look.statesByScans(x), Look.states(x));
            check.is("waves()", x.waves(), wavesDue);
            check.is("minute()", x.minute(), minuteDue);
            check.is("writtenOff()", x.writtenOff(), badDue);
        }
    }

    private void callOneOf(int kind) {
        switch (kind) {
            case 0 -> addArticle();
            case 1, 2 -> order();
            case 3 -> drop();
            case 4, 5 -> pick();
            case 6 -> ship();
            case 7 -> wave();
            case 8 -> setBlocked();
            case 9 -> setPickers();
            case 10 -> giveBack();
            case 11 -> send();
            default -> pass();
        }
    }

    private void addArticle() {
        int aisle = near(0, 3);
        int stock = near(0, 20);
        int reserve = near(0, 40);
        int room = near(20, 30);
        if (attempt(() -> x.addArticle(aisle, stock, reserve, room)) != THROWN) {
            articles++;
            unitsDue += stock + reserve;
        }
    }

    private void order() {
        int article = near(0, articles - 1);
        int amount = near(1, 20);
        int carrier = near(0, 2);
        int number = attempt(() -> x.order(article, amount, carrier));
        if (number != THROWN) {
            articleOf[number] = article;
        }
    }

    private void drop() {
        int order = near(0, x.orders() - 1);
        int free = attempt(() -> x.drop(order));
        if (free != THROWN) {
            check.is("what is free then", free, x.free(articleOf[order]));
            check.isSign("state", x.state(order), 'd');
        }
    }

    private void pick() {
        int order = near(0, x.orders() - 1);
        boolean isOrder = order >= 0 && order < x.orders();
        int amount = isOrder ? x.amount(order) : 0;
        int stock = isOrder ? x.stock(articleOf[order]) : 0;
        int found = upTo(3) == 0 ? near(0, amount) : amount;
        int split = attempt(() -> x.pick(order, found));
        if (split >= 0) {
            articleOf[split] = articleOf[order];
            unitsDue -= stock - found;
            check.is("the new order", split, x.orders() - 1);
            check.is("what was found, and the rest", x.amount(order) + x.amount(split), amount);
            check.is("nothing is promised of it", x.promised(articleOf[split]), 0);
        }
    }

    private void ship() {
        int carrier = near(0, 2);
        int before = count('s');
        int shipped = attempt(() -> x.ship(carrier));
        check.is("shipped ones", count('s') - before, Math.max(shipped, 0));
    }

    private void wave() {
        int carrier = near(0, 2);
        int before = count('p');
        int promised = attempt(() -> x.wave(carrier));
        check.is("promised ones", count('p') - before, Math.max(promised, 0));
        if (promised != THROWN) {
            wavesDue++;
        }
    }

    private void setBlocked() {
        int aisle = near(0, 3);
        boolean isBlocked = upTo(3) == 0;
        attempt(() -> x.setBlocked(aisle, isBlocked) ? 1 : 0);
    }

    private void setPickers() {
        int aisle = near(0, 3);
        int pickers = near(0, 9);
        attempt(() -> x.setPickers(aisle, pickers));
    }

    private void giveBack() {
        int article = near(0, articles - 1);
        int good = near(0, 20);
        int bad = near(0, 20);
        if (attempt(() -> x.giveBack(article, good, bad)) != THROWN) {
            unitsDue += good;
            badDue += bad;
        }
    }

    private void send() {
        int robot = near(0, 1);
        int article = near(0, articles - 1);
        int minutes = attempt(() -> x.send(robot, article));
        if (minutes != THROWN) {
            check.is("minutesOf", x.minutesOf(robot), minutes);
            check.isTrue("it carries 1 to 10", x.carried(robot) >= 1 && x.carried(robot) <= 10);
        }
    }

    private void pass() {
        int minutes = near(1, 6);
        int before = sumOfStocks();
        int brought = attempt(() -> x.pass(minutes));
        check.is("units that came to shelves", sumOfStocks() - before, Math.max(brought, 0));
        if (brought != THROWN) {
            minuteDue += minutes;
        }
    }

    private void nothingIsPromisedTwice() {
        for (int article = 0; article < articles; article++) {
            int sum = 0;
            for (int i = 0; i < x.orders(); i++) {
                sum += articleOf[i] == article && x.state(i) == 'p' ? x.amount(i) : 0;
            }
            check.is("promised", x.promised(article), sum);
            check.is("promisedByScans", x.promisedByScans(article), sum);
            check.is("free", x.free(article), x.stock(article) - sum);
            check.isTrue("free is not below 0", x.free(article) >= 0);
        }
    }

    private void unitsAreNotLost() {
        int units = sumOfStocks() + x.carried(0) + x.carried(1);
        for (int article = 0; article < articles; article++) {
            units += x.reserve(article);
        }
        for (int i = 0; i < x.orders(); i++) {
            units += x.state(i) == 'k' || x.state(i) == 's' ? x.amount(i) : 0;
        }
        check.is("all units", units, unitsDue);
    }

    private void sumsAreOfTheShippedOrders() {
        long sum = 0;
        for (int i = 0; i < x.orders(); i++) {
            sum += x.state(i) == 's' ? x.amount(i) : 0;
        }
        check.is("shipped()", x.shipped(), sum);
        if (x.orders() > 0) {
            check.isShare("shippedShare()", x.shippedShare(), (float) count('s') / (float) x.orders());
        }
    }

    private int sumOfStocks() {
        int sum = 0;
        for (int article = 0; article < articles; article++) {
            sum += x.stock(article);
        }
        return sum;
    }

    private int count(char state) {
        int count = 0;
        for (int i = 0; i < x.orders(); i++) {
            count += x.state(i) == state ? 1 : 0;
        }
        return count;
    }

    private int attempt(Call call) {
        String before = Look.at(x);
        try {
            return call.answer();
        } catch (RuntimeException e) {
            Class<?> kind = e.getClass();
            check.isTrue("thrown was " + e, kind == Check.INDEX || kind == Check.ARGUMENT
                    || kind == Check.STATE || kind == Check.UNSUPPORTED || kind == Check.NO_ELEMENT);
            check.isTrue("the library threw " + e, Check.isThrownByThePlanner(e));
            check.isText("what a call that throws leaves behind", Look.at(x), before);
            return THROWN;
        }
    }

    /** Mostly from least to most, sometimes beside them or far off. */
    private int near(int least, int most) {
        switch (upTo(40)) {
            case 0:
                return least - 1;
            case 1:
                return most + 1;
            case 2:
                return Check.FAR_OFF[upTo(Check.FAR_OFF.length)];
            default:
                return least + upTo(most - least + 1);
        }
    }

    private int upTo(int bound) {
        seed = seed * 6364136223846793005L + 1442695040888963407L;
        return (int) ((seed >>> 33) % Math.max(bound, 1));
    }
}
