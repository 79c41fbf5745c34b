import java.util.ArrayList;
import java.util.NoSuchElementException;

/** A warehouse's wave planner. */
public final class Pickwave {
    private static final int AISLES = 4;
    private static final int CARRIERS = 3;
    private static final int ROBOTS = 2;
    private static final int MOST_ARTICLES = 6;
    private static final int MOST_ORDERS = 12;
    private static final int MOST_WAVES = 20;

    private static final int MOST_ROOM = 99;
    private static final int MOST_RESERVE_AT_FIRST = 999;
    private static final int MOST_RESERVE = 9999;
    private static final int MOST_AMOUNT = 20;
    private static final int MOST_GIVEN_BACK = 20;
    private static final int MOST_PICKERS = 9;

    private static final int LAST_MINUTE = 1439;
    private static final int MOST_MINUTES_TO_PASS = 60;

    private static final int MOST_CARRIED = 10;
    private static final int MINUTES_OF_A_WAY = 3;
    private static final int MINUTES_FOR_A_PICKER = 2;
    private static final int MINUTES_FOR_THE_OTHER_ROBOT = 4;

    // An order comes once, is picked or dropped once and is shipped once at
    // most; each wave can promise it, and each promise can be taken back.
    private static final int MOST_SCANS = MOST_ORDERS * (3 + 2 * MOST_WAVES);

    private static final char OPEN = 'o';
    private static final char PROMISED = 'p';
    private static final char PICKED = 'k';
    private static final char SHIPPED = 's';
    private static final char DROPPED = 'd';

    private static final char COMES = 'n';
    private static final char OPEN_AGAIN = 'u';

    private static final int NO_WAVE = -1;
    private static final int NO_SPLIT = -1;
    private static final int CUT_OFF_IS_OVER = -1;

    private final Aisle[] aisles;
    private final int[] cutOffs;
    private final Robot[] robots;
    private final ArrayList<Article> articles;
    private final ArrayList<Line> lines;
    private final ScanLog log;
    private int presentMinute;
    private int waveCount;
    private int badUnits;
    private long shippedUnits;

    private static final class Aisle {
        final int number;
        boolean blocked;
        int pickers;

        Aisle(int number) {
            this.number = number;
        }
    }

    private static final class Article {
        final Aisle aisle;
        final int room;
        int stock;
        int reserve;
        int promisedUnits;

        Article(Aisle aisle, int stock, int reserve, int room) {
            this.aisle = aisle;
            this.stock = stock;
            this.reserve = reserve;
            this.room = room;
        }

        int freeUnits() {
            return stock - promisedUnits;
        }

        int roomLeft() {
            return room - stock;
        }

        /** Returns how many of the units come to the shelf. */
        int putAway(int units) {
            int shelved = Math.min(units, roomLeft());
            stock += shelved;
            reserve += units - shelved;
            return shelved;
        }
    }

    /** An order; the class is not named so because a method is. */
    private static final class Line {
        final int number;
        final Article article;
        final int carrier;
        int amount;
        char state;
        int lastWave;

        Line(int number, Article article, int amount, int carrier) {
            this.number = number;
            this.article = article;
            this.amount = amount;
            this.carrier = carrier;
            this.state = OPEN;
            this.lastWave = NO_WAVE;
        }
    }

    private static final class Robot {
        // null while the robot is idle
        Article article;
        int load;
        int minutes;
    }

    private static final class ScanLog {
        final int[] numbers;
        final char[] signs;
        int count;

        ScanLog() {
            numbers = new int[MOST_SCANS];
            signs = new char[MOST_SCANS];
        }

        void write(int number, char sign) {
            if (count < numbers.length && count < signs.length) {
                numbers[count] = number;
                signs[count] = sign;
                count++;
            }
        }

        boolean has(int scan) {
            return scan >= 0 && scan < count && scan < numbers.length && scan < signs.length;
        }

        char lastSignOf(int number) {
            char sign = COMES;
            int end = Math.min(count, Math.min(numbers.length, signs.length));
            for (int i = 0; i < end; i++) {
                if (numbers[i] == number) {
                    sign = signs[i];
                }
            }
            return sign;
        }
    }

    public Pickwave() {
        aisles = new Aisle[AISLES];
        for (int i = 0; i < aisles.length; i++) {
            aisles[i] = new Aisle(i);
        }
        cutOffs = new int[CARRIERS];
        for (int i = 0; i < cutOffs.length; i++) {
            cutOffs[i] = LAST_MINUTE;
        }
        robots = new Robot[ROBOTS];
        for (int i = 0; i < robots.length; i++) {
            robots[i] = new Robot();
        }
        articles = new ArrayList<Article>();
        lines = new ArrayList<Line>();
        log = new ScanLog();
    }

    // Articles and aisles

    public int addArticle(int aisle, int stock, int reserve, int room)
            throws IllegalArgumentException, IllegalStateException {
        if (!isAisle(aisle)) {
            throw new IllegalArgumentException("there is no such aisle");
        }
        if (!isBetween(room, 1, MOST_ROOM) || !isBetween(stock, 0, room)) {
            throw new IllegalArgumentException("the room or the stock is out of its bounds");
        }
        if (!isBetween(reserve, 0, MOST_RESERVE_AT_FIRST)) {
            throw new IllegalArgumentException("the reserve is out of its bounds");
        }
        if (articles.size() >= MOST_ARTICLES) {
            throw new IllegalStateException("there are 6 articles");
        }
        articles.add(new Article(aisles[aisle], stock, reserve, room));
        return articles.size() - 1;
    }

    public int stock(int article) throws IndexOutOfBoundsException {
        return findArticle(article).stock;
    }

    public int reserve(int article) throws IndexOutOfBoundsException {
        return findArticle(article).reserve;
    }

    public int free(int article) throws IndexOutOfBoundsException {
        return findArticle(article).freeUnits();
    }

    public int promised(int article) throws IndexOutOfBoundsException {
        return findArticle(article).promisedUnits;
    }

    public int promisedByScans(int article) throws IndexOutOfBoundsException {
        Article wanted = findArticle(article);
        int sum = 0;
        for (int i = 0; i < lines.size(); i++) {
            Line line = lines.get(i);
            if (line.article == wanted && lastScannedState(line) == PROMISED) {
                sum += line.amount;
            }
        }
        return sum;
    }

    public boolean setBlocked(int aisle, boolean isBlocked) throws IndexOutOfBoundsException {
        Aisle changed = findAisle(aisle);
        boolean before = changed.blocked;
        changed.blocked = isBlocked;
        if (isBlocked) {
            reopenInAisle(changed);
        }
        return before;
    }

    public int setPickers(int aisle, int pickers)
            throws IndexOutOfBoundsException, IllegalArgumentException {
        Aisle changed = findAisle(aisle);
        if (!isBetween(pickers, 0, MOST_PICKERS)) {
            throw new IllegalArgumentException("the number of pickers is not between 0 and 9");
        }
        int before = changed.pickers;
        changed.pickers = pickers;
        return before;
    }

    public int giveBack(int article, int good, int bad)
            throws IndexOutOfBoundsException, IllegalArgumentException, IllegalStateException {
        Article returned = findArticle(article);
        if (!isBetween(good, 0, MOST_GIVEN_BACK) || !isBetween(bad, 0, MOST_GIVEN_BACK)) {
            throw new IllegalArgumentException("a number is not between 0 and 20");
        }
        if (good == 0 && bad == 0) {
            throw new IllegalArgumentException("both numbers are 0");
        }
        int beyondShelf = Math.max(0, good - returned.roomLeft());
        if (returned.reserve + beyondShelf > MOST_RESERVE) {
            throw new IllegalStateException("the reserve would be greater than 9999");
        }
        badUnits += bad;
        return returned.putAway(good);
    }

    public int writtenOff() {
        return badUnits;
    }

    // Orders

    public int order(int article, int amount, int carrier)
            throws IndexOutOfBoundsException, IllegalArgumentException, IllegalStateException {
        Article ordered = findArticle(article);
        if (!isBetween(amount, 1, MOST_AMOUNT)) {
            throw new IllegalArgumentException("the amount is not between 1 and 20");
        }
        if (!isCarrier(carrier)) {
            throw new IllegalArgumentException("there is no such carrier");
        }
        if (lines.size() >= MOST_ORDERS) {
            throw new IllegalStateException("there are 12 orders");
        }
        return letCome(ordered, amount, carrier);
    }

    public int drop(int order) throws IndexOutOfBoundsException, IllegalStateException {
        Line line = findLine(order);
        if (line.state != OPEN && line.state != PROMISED) {
            throw new IllegalStateException("the order is neither open nor promised");
        }
        scan(line, DROPPED);
        return line.article.freeUnits();
    }

    public char state(int order) throws IndexOutOfBoundsException {
        return findLine(order).state;
    }

    public char stateByScans(int order) throws IndexOutOfBoundsException {
        return lastScannedState(findLine(order));
    }

    public int amount(int order) throws IndexOutOfBoundsException {
        return findLine(order).amount;
    }

    public int orders() {
        return lines.size();
    }

    public int pick(int order, int found)
            throws IndexOutOfBoundsException, IllegalArgumentException,
            UnsupportedOperationException, IllegalStateException {
        Line line = findLine(order);
        if (!isBetween(found, 0, line.amount)) {
            throw new IllegalArgumentException("the amount is not between 0 and that of the order");
        }
        if (line.article.aisle.blocked) {
            throw new UnsupportedOperationException("the aisle is blocked");
        }
        if (line.state != PROMISED) {
            throw new IllegalStateException("the order is not promised");
        }
        if (found == line.amount) {
            scan(line, PICKED);
            line.article.stock -= found;
            return NO_SPLIT;
        }
        if (lines.size() >= MOST_ORDERS) {
            throw new IllegalStateException("there are 12 orders");
        }
        return split(line, found);
    }

    public int ship(int carrier) throws IndexOutOfBoundsException {
        checkCarrier(carrier);
        int count = 0;
        for (int i = 0; i < lines.size(); i++) {
            Line line = lines.get(i);
            if (line.carrier == carrier && line.state == PICKED) {
                scan(line, SHIPPED);
                shippedUnits += line.amount;
                count++;
            }
        }
        return count;
    }

    // Waves

    public int setCutOff(int carrier, int minute)
            throws IndexOutOfBoundsException, IllegalArgumentException {
        checkCarrier(carrier);
        if (!isBetween(minute, 0, LAST_MINUTE)) {
            throw new IllegalArgumentException("the minute is not between 0 and 1439");
        }
        int before = cutOffs[carrier];
        cutOffs[carrier] = minute;
        return before;
    }

    public int wave(int carrier)
            throws IndexOutOfBoundsException, UnsupportedOperationException, IllegalStateException {
        checkCarrier(carrier);
        if (presentMinute > cutOffs[carrier]) {
            throw new UnsupportedOperationException("the cut-off is over");
        }
        if (waveCount >= MOST_WAVES) {
            throw new IllegalStateException("there are 20 waves");
        }
        int number = waveCount;
        waveCount++;
        int count = 0;
        for (int amount = 1; amount <= MOST_AMOUNT; amount++) {
            count += promiseAll(carrier, amount, number);
        }
        return count;
    }

    public int waveOf(int order) throws IndexOutOfBoundsException, NoSuchElementException {
        Line line = findLine(order);
        if (line.lastWave == NO_WAVE) {
            throw new NoSuchElementException("the order was never promised");
        }
        return line.lastWave;
    }

    public int waves() {
        return waveCount;
    }

    public int minutesLeft(int carrier) throws IndexOutOfBoundsException {
        checkCarrier(carrier);
        int left = cutOffs[carrier] - presentMinute;
        return left < 0 ? CUT_OFF_IS_OVER : left;
    }

    // Robots and time

    public int send(int robot, int article)
            throws IndexOutOfBoundsException, UnsupportedOperationException,
            IllegalStateException, NoSuchElementException {
        Robot sent = findRobot(robot);
        Article fetched = findArticle(article);
        if (fetched.aisle.blocked) {
            throw new UnsupportedOperationException("the aisle is blocked");
        }
        if (sent.article != null) {
            throw new IllegalStateException("the robot is on its way");
        }
        int load = Math.min(MOST_CARRIED, Math.min(fetched.reserve, fetched.roomLeft()));
        if (load <= 0) {
            throw new NoSuchElementException("there is no reserve, or no room");
        }
        // before the robot has the article, or it would count as the other one
        sent.minutes = minutesOfAWay(fetched.aisle);
        sent.article = fetched;
        sent.load = load;
        fetched.reserve -= load;
        return sent.minutes;
    }

    public int carried(int robot) throws IndexOutOfBoundsException {
        return findRobot(robot).load;
    }

    public int minutesOf(int robot) throws IndexOutOfBoundsException {
        return findRobot(robot).minutes;
    }

    public int aisleOf(int robot) throws IndexOutOfBoundsException, NoSuchElementException {
        Article article = findRobot(robot).article;
        if (article == null) {
            throw new NoSuchElementException("the robot is idle");
        }
        return article.aisle.number;
    }

    public int pass(int minutes) throws IllegalArgumentException {
        if (!isBetween(minutes, 1, MOST_MINUTES_TO_PASS)) {
            throw new IllegalArgumentException("the number of minutes is not between 1 and 60");
        }
        if (presentMinute + minutes > LAST_MINUTE) {
            throw new IllegalArgumentException("the minute would be greater than 1439");
        }
        int brought = 0;
        for (int i = 0; i < minutes; i++) {
            presentMinute++;
            for (int k = 0; k < robots.length; k++) {
                brought += passMinuteOf(robots[k]);
            }
        }
        return brought;
    }

    public int minute() {
        return presentMinute;
    }

    // Scans and sums

    public int scans() {
        return log.count;
    }

    public int scanOrder(int scan) throws IndexOutOfBoundsException {
        if (!log.has(scan)) {
            throw new IndexOutOfBoundsException("there is no such scan");
        }
        return log.numbers[scan];
    }

    public char scanSign(int scan) throws IndexOutOfBoundsException {
        if (!log.has(scan)) {
            throw new IndexOutOfBoundsException("there is no such scan");
        }
        return log.signs[scan];
    }

    public long shipped() {
        return shippedUnits;
    }

    public float shippedShare() throws NoSuchElementException {
        int all = lines.size();
        if (all == 0) {
            throw new NoSuchElementException("there is no order");
        }
        int count = 0;
        for (int i = 0; i < all; i++) {
            if (lines.get(i).state == SHIPPED) {
                count++;
            }
        }
        return (float) count / (float) all;
    }

    // What the calls above share

    private static boolean isBetween(int number, int least, int most) {
        return number >= least && number <= most;
    }

    private boolean isAisle(int aisle) {
        return aisle >= 0 && aisle < aisles.length;
    }

    private boolean isCarrier(int carrier) {
        return carrier >= 0 && carrier < cutOffs.length;
    }

    private void checkCarrier(int carrier) {
        if (!isCarrier(carrier)) {
            throw new IndexOutOfBoundsException("there is no such carrier");
        }
    }

    private Aisle findAisle(int aisle) {
        if (!isAisle(aisle)) {
            throw new IndexOutOfBoundsException("there is no such aisle");
        }
        return aisles[aisle];
    }

    private Article findArticle(int article) {
        if (article < 0 || article >= articles.size()) {
            throw new IndexOutOfBoundsException("there is no such article");
        }
        return articles.get(article);
    }

    private Line findLine(int order) {
        if (order < 0 || order >= lines.size()) {
            throw new IndexOutOfBoundsException("there is no such order");
        }
        return lines.get(order);
    }

    private Robot findRobot(int robot) {
        if (robot < 0 || robot >= robots.length) {
            throw new IndexOutOfBoundsException("there is no such robot");
        }
        return robots[robot];
    }

    private int letCome(Article article, int amount, int carrier) {
        Line line = new Line(lines.size(), article, amount, carrier);
        lines.add(line);
        scan(line, COMES);
        return line.number;
    }

    /** The only way to a new state, so that state, sum and scans can't part. */
    private void scan(Line line, char sign) {
        char next = stateAfter(sign);
        if (line.state == PROMISED) {
            line.article.promisedUnits -= line.amount;
        }
        if (next == PROMISED) {
            line.article.promisedUnits += line.amount;
        }
        line.state = next;
        log.write(line.number, sign);
    }

    private static char stateAfter(char sign) {
        return sign == COMES || sign == OPEN_AGAIN ? OPEN : sign;
    }

    private char lastScannedState(Line line) {
        return stateAfter(log.lastSignOf(line.number));
    }

    private int split(Line line, int found) {
        int rest = line.amount - found;
        // scanned with the whole amount, as that is what was promised
        scan(line, found == 0 ? DROPPED : PICKED);
        line.amount = found;
        int number = letCome(line.article, rest, line.carrier);
        line.article.stock = 0;
        reopenOfArticle(line.article);
        return number;
    }

    private void reopenInAisle(Aisle aisle) {
        for (int i = 0; i < lines.size(); i++) {
            Line line = lines.get(i);
            if (line.article.aisle == aisle && line.state == PROMISED) {
                scan(line, OPEN_AGAIN);
            }
        }
    }

    private void reopenOfArticle(Article article) {
        for (int i = 0; i < lines.size(); i++) {
            Line line = lines.get(i);
            if (line.article == article && line.state == PROMISED) {
                scan(line, OPEN_AGAIN);
            }
        }
    }

    private int promiseAll(int carrier, int amount, int waveNumber) {
        int count = 0;
        for (int i = 0; i < lines.size(); i++) {
            Line line = lines.get(i);
            boolean looksAt = line.carrier == carrier && line.amount == amount && line.state == OPEN;
            if (looksAt && canBePromised(line)) {
                scan(line, PROMISED);
                line.lastWave = waveNumber;
                count++;
            }
        }
        return count;
    }

    private static boolean canBePromised(Line line) {
        return !line.article.aisle.blocked && line.amount <= line.article.freeUnits();
    }

    private int minutesOfAWay(Aisle aisle) {
        int minutes = MINUTES_OF_A_WAY + MINUTES_FOR_A_PICKER * aisle.pickers;
        return hasRobotIn(aisle) ? minutes + MINUTES_FOR_THE_OTHER_ROBOT : minutes;
    }

    private boolean hasRobotIn(Aisle aisle) {
        for (int i = 0; i < robots.length; i++) {
            Article article = robots[i].article;
            if (article != null && article.aisle == aisle) {
                return true;
            }
        }
        return false;
    }

    /** Returns how many units the robot brings to its shelf in this minute. */
    private static int passMinuteOf(Robot robot) {
        Article article = robot.article;
        if (article == null || article.aisle.blocked) {
            return 0;
        }
        robot.minutes--;
        if (robot.minutes > 0) {
            return 0;
        }
        int load = robot.load;
        robot.article = null;
        robot.load = 0;
        return article.putAway(load);
    }
}
