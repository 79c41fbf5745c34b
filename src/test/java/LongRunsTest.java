import java.util.function.Supplier;

/**
 * Runs of 512 calls with right and wrong numbers, the same at every start: each answer of the class is that of
 * the model, and after each call what must hold holds of the model, whatever came before it.
 */
public final class LongRunsTest {
    private static final int CALLS = 512;
    /** More than all readings but those of the scans. */
    private static final int LAST_LOOK = 120;
    private static final int RUNS = 1500;
    private static final int RUNS_ON_A_FULL_RESERVE = 100;
    private static final int RUNS_LATE_IN_THE_DAY = 50;

    private static final Check check = new Check();

    private final Pickwave x = new Pickwave();
    private final Model model = new Model();
    private final String name;
    private long seed;
    private int calls;
    private int unitsDue;

    private LongRunsTest(String kind, int number) {
        name = kind + " " + number;
        seed = number;
    }

    public static void main(String[] args) {
        for (int i = 0; i < RUNS; i++) {
            new LongRunsTest("run", i).run();
        }
        for (int i = 0; i < RUNS_ON_A_FULL_RESERVE; i++) {
            new LongRunsTest("run on a full reserve", i).runOnAFullReserve();
        }
        for (int i = 0; i < RUNS_LATE_IN_THE_DAY; i++) {
            new LongRunsTest("run late in the day", i).runLateInTheDay();
        }
        check.end("LongRunsTest");
    }

    private void run() {
        int articles = upTo(4);
        for (int i = 0; i < articles; i++) {
            addArticle();
        }
        int end = upTo(CALLS - LAST_LOOK);
        while (calls < end) {
            callOneOf(upTo(36));
        }
        lookAtAll();
    }

    /** Robots lift the reserve over what returns can make of it, and take it down again. */
    private void runOnAFullReserve() {
        addArticle(0, 30, 999, 30);
        for (int i = 0; i < 450; i++) {
            giveBack(0, 20, 0);
        }
        while (calls < CALLS) {
            switch (upTo(7)) {
                case 0 -> order(0, 1 + upTo(5), 0);
                case 1 -> wave(0);
                case 2 -> pickAnOrder();
                case 3 -> giveBack(0, near(0, 20), near(0, 20));
                case 4 -> send(upTo(2), 0);
                case 5 -> pass(near(1, 5));
                default -> readAnArticle();
            }
        }
    }

    private void runLateInTheDay() {
        for (int i = 0; i < 23; i++) {
            pass(60);
        }
        run();
    }

    private void callOneOf(int kind) {
        switch (kind) {
            case 0, 1 -> addArticle();
            case 2, 3, 4, 5 -> order(nearArticle(), near(1, 20), near(0, 2));
            case 6, 7, 8 -> wave(near(0, 2));
            case 9, 10, 11, 12 -> pickAnOrder();
            case 13 -> drop(nearOrder());
            case 14, 15 -> ship(near(0, 2));
            case 16, 17 -> setBlocked(near(0, 3), upTo(3) == 0);
            case 18 -> setPickers(near(0, 3), near(0, 9));
            case 19, 20 -> giveBack(nearArticle(), near(0, 20), near(0, 20));
            case 21 -> setCutOff(near(0, 2), near(0, 1439));
            case 22, 23, 24 -> send(near(0, 1), nearArticle());
            case 25, 26 -> pass(near(1, 6));
            case 27 -> pass(near(1, 60));
            default -> readOneOf(kind);
        }
    }

    private void readOneOf(int kind) {
        switch (kind) {
            case 28, 29 -> readAnArticle();
            case 30, 31 -> readOrder(upTo(5), nearOrder());
            case 32 -> readRobot(upTo(3), near(0, 1));
            case 33 -> readScan(upTo(2), near(0, model.scans() - 1));
            case 34 -> minutesLeft(near(0, 2));
            default -> readSum(upTo(8));
        }
    }

    private void addArticle() {
        int room = upTo(4) == 0 ? near(1, 99) : near(20, 30);
        addArticle(near(0, 3), near(0, Math.min(room, 20)), near(0, upTo(10) == 0 ? 999 : 40), room);
    }

    private void addArticle(int aisle, int stock, int reserve, int room) {
        int before = model.articles();
        same("addArticle", () -> x.addArticle(aisle, stock, reserve, room),
                () -> model.addArticle(aisle, stock, reserve, room));
        unitsDue += model.articles() > before ? stock + reserve : 0;
        theseHold();
    }

    private void order(int article, int amount, int carrier) {
        same("order", () -> x.order(article, amount, carrier), () -> model.order(article, amount, carrier));
        theseHold();
    }

    private void drop(int order) {
        same("drop", () -> x.drop(order), () -> model.drop(order));
        theseHold();
    }

    private void pickAnOrder() {
        int order = nearOrder();
        int amount = isOrder(order) ? model.amount(order) : 1;
        pick(order, upTo(3) == 0 ? near(0, amount) : amount);
    }

    private void pick(int order, int found) {
        int before = model.orders();
        int stock = isOrder(order) ? model.stock(model.articleOf(order)) : 0;
        same("pick", () -> x.pick(order, found), () -> model.pick(order, found));
        if (model.orders() > before) {
            unitsDue -= stock - found;
            check.is("nothing is promised behind a split", model.promised(model.articleOf(order)), 0);
            check.is("nothing is on the shelf", model.stock(model.articleOf(order)), 0);
        }
        theseHold();
    }

    private void ship(int carrier) {
        same("ship", () -> x.ship(carrier), () -> model.ship(carrier));
        theseHold();
    }

    private void wave(int carrier) {
        same("wave", () -> x.wave(carrier), () -> model.wave(carrier));
        theseHold();
    }

    private void setBlocked(int aisle, boolean isBlocked) {
        same("setBlocked", () -> x.setBlocked(aisle, isBlocked), () -> model.setBlocked(aisle, isBlocked));
        theseHold();
    }

    private void setPickers(int aisle, int pickers) {
        same("setPickers", () -> x.setPickers(aisle, pickers), () -> model.setPickers(aisle, pickers));
        theseHold();
    }

    private void setCutOff(int carrier, int minute) {
        same("setCutOff", () -> x.setCutOff(carrier, minute), () -> model.setCutOff(carrier, minute));
        theseHold();
    }

    private void giveBack(int article, int good, int bad) {
        String answer = same("giveBack", () -> x.giveBack(article, good, bad),
                () -> model.giveBack(article, good, bad));
        unitsDue += isNumber(answer) ? good : 0;
        theseHold();
    }

    private void send(int robot, int article) {
        same("send", () -> x.send(robot, article), () -> model.send(robot, article));
        theseHold();
    }

    private void pass(int minutes) {
        same("pass", () -> x.pass(minutes), () -> model.pass(minutes));
        theseHold();
    }

    private void readAnArticle() {
        readArticle(upTo(5), nearArticle());
    }

    private void readArticle(int what, int article) {
        switch (what) {
            case 0 -> same("stock", () -> x.stock(article), () -> model.stock(article));
            case 1 -> same("reserve", () -> x.reserve(article), () -> model.reserve(article));
            case 2 -> same("free", () -> x.free(article), () -> model.free(article));
            case 3 -> same("promised", () -> x.promised(article), () -> model.promised(article));
            default -> same("promisedByScans", () -> x.promisedByScans(article), () -> model.promised(article));
        }
    }

    private void readOrder(int what, int order) {
        switch (what) {
            case 0 -> same("state", () -> x.state(order), () -> model.state(order));
            case 1 -> same("stateByScans", () -> x.stateByScans(order), () -> model.state(order));
            case 2 -> same("amount", () -> x.amount(order), () -> model.amount(order));
            default -> same("waveOf", () -> x.waveOf(order), () -> model.waveOf(order));
        }
    }

    private void readRobot(int what, int robot) {
        switch (what) {
            case 0 -> same("carried", () -> x.carried(robot), () -> model.carried(robot));
            case 1 -> same("minutesOf", () -> x.minutesOf(robot), () -> model.minutesOf(robot));
            default -> same("aisleOf", () -> x.aisleOf(robot), () -> model.aisleOf(robot));
        }
    }

    private void readScan(int what, int scan) {
        switch (what) {
            case 0 -> same("scanOrder", () -> x.scanOrder(scan), () -> model.scanOrder(scan));
            default -> same("scanSign", () -> x.scanSign(scan), () -> model.scanSign(scan));
        }
    }

    private void minutesLeft(int carrier) {
        same("minutesLeft", () -> x.minutesLeft(carrier), () -> model.minutesLeft(carrier));
    }

    private void readSum(int what) {
        switch (what) {
            case 0 -> same("writtenOff", x::writtenOff, model::writtenOff);
            case 1 -> same("orders", x::orders, model::orders);
            case 2 -> same("waves", x::waves, model::waves);
            case 3 -> same("minute", x::minute, model::minute);
            case 4 -> same("scans", x::scans, model::scans);
            case 5 -> same("shipped", x::shipped, model::shipped);
            default -> same("shippedShare", x::shippedShare, model::shippedShare);
        }
    }

    /** All readings, and those of as many of the last scans as the 512 calls leave room for. */
    private void lookAtAll() {
        for (int what = 0; what < 7; what++) {
            readSum(what);
            for (int article = 0; what < 5 && article < model.articles(); article++) {
                readArticle(what, article);
            }
            for (int order = 0; what < 4 && order < model.orders(); order++) {
                readOrder(what, order);
            }
            for (int robot = 0; what < 3 && robot < 2; robot++) {
                readRobot(what, robot);
            }
        }
        for (int carrier = 0; carrier < 3; carrier++) {
            minutesLeft(carrier);
        }
        for (int scan = model.scans() - 1; scan >= 0 && calls <= CALLS - 2; scan--) {
            readScan(0, scan);
            readScan(1, scan);
        }
        check.isTrue("an object is used for at most 512 calls", calls <= CALLS);
    }

    private void theseHold() {
        for (int article = 0; article < model.articles(); article++) {
            check.isTrue("more is promised than is on the shelf", model.free(article) >= 0);
            check.isTrue("the shelf has no room for its stock", model.stock(article) <= model.roomOf(article));
        }
        check.is("all units", model.allUnits(), unitsDue);
    }

    private String same(String what, Supplier<Object> call, Supplier<Object> callOfTheModel) {
        calls++;
        String due = answer(callOfTheModel);
        check.isText(name + ", call " + calls + ": " + what, answerOfTheClass(call), due);
        return due;
    }

    private static String answer(Supplier<Object> call) {
        try {
            return String.valueOf(call.get());
        } catch (RuntimeException e) {
            return e.getClass().getSimpleName();
        }
    }

    private static String answerOfTheClass(Supplier<Object> call) {
        try {
            return String.valueOf(call.get());
        } catch (RuntimeException e) {
            check.isTrue("the library threw " + e, Check.isThrownByThePlanner(e));
            return e.getClass().getSimpleName();
        }
    }

    private static boolean isNumber(String answer) {
        return Character.isDigit(answer.charAt(0));
    }

    private boolean isOrder(int order) {
        return order >= 0 && order < model.orders();
    }

    private int nearArticle() {
        return near(0, model.articles() - 1);
    }

    private int nearOrder() {
        return near(0, model.orders() - 1);
    }

    /** Mostly from least to most, sometimes beside them or far off. */
    private int near(int least, int most) {
        switch (upTo(40)) {
            case 0:
                return least - 1;
            case 1:
                return most + 1;
            case 2:
                return Check.FAR_OFF[upTo(Check.FAR_OFF.length)];
            default:
                return least + upTo(most - least + 1);
        }
    }

    private int upTo(int bound) {
        seed = seed * 6364136223846793005L + 1442695040888963407L;
        return (int) ((seed >>> 33) % Math.max(bound, 1));
    }
}
