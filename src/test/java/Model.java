import java.util.ArrayList;
import java.util.Comparator;
import java.util.List;
import java.util.NoSuchElementException;
import java.util.function.Predicate;
import java.util.function.Supplier;

/**
 * The document's planner once more, for comparison: of what happens to orders it keeps the scans alone, and
 * finds states, promises, waves and sums from them at each call.
 */
final class Model {
    private static final Supplier<RuntimeException> INDEX = IndexOutOfBoundsException::new;
    private static final Supplier<RuntimeException> ARGUMENT = IllegalArgumentException::new;
    private static final Supplier<RuntimeException> UNSUPPORTED = UnsupportedOperationException::new;
    private static final Supplier<RuntimeException> STATE = IllegalStateException::new;
    private static final Supplier<RuntimeException> NO_ELEMENT = NoSuchElementException::new;
    private static final int IDLE = -1;

    private final List<Article> articles = new ArrayList<>();
    private final List<Order> orders = new ArrayList<>();
    private final List<Scan> scans = new ArrayList<>();
    private final boolean[] blocked = new boolean[4];
    private final int[] pickers = new int[4];
    private final int[] cutOffs = {1439, 1439, 1439};
    private final int[] robotArticle = {IDLE, IDLE};
    private final int[] robotLoad = new int[2];
    private final int[] robotMinutes = new int[2];
    private int waves;
    private int minute;
    private int writtenOff;

    private static final class Article {
        int aisle;
        int stock;
        int reserve;
        int room;
    }

    private static final class Order {
        int number;
        int article;
        int amount;
        int carrier;
    }

    /** The wave is the number of waves when it was scanned. */
    private record Scan(int order, char sign, int wave) {
    }

    int addArticle(int aisle, int stock, int reserve, int room) {
        need(isIn(aisle, 0, 3), ARGUMENT);
        need(isIn(room, 1, 99), ARGUMENT);
        need(isIn(stock, 0, room), ARGUMENT);
        need(isIn(reserve, 0, 999), ARGUMENT);
        need(articles.size() < 6, STATE);
        Article article = new Article();
        article.aisle = aisle;
        article.stock = stock;
        article.reserve = reserve;
        article.room = room;
        articles.add(article);
        return articles.size() - 1;
    }

    int stock(int article) {
        return article(article).stock;
    }

    int reserve(int article) {
        return article(article).reserve;
    }

    int free(int article) {
        return stock(article) - promised(article);
    }

    int promised(int article) {
        article(article);
        return sumOfAmounts(o -> o.article == article && state(o.number) == 'p');
    }

    boolean setBlocked(int aisle, boolean isBlocked) {
        need(isIn(aisle, 0, 3), INDEX);
        boolean before = blocked[aisle];
        blocked[aisle] = isBlocked;
        for (Order order : orders) {
            if (isBlocked && article(order.article).aisle == aisle && state(order.number) == 'p') {
                scan(order.number, 'u');
            }
        }
        return before;
    }

    int setPickers(int aisle, int number) {
        need(isIn(aisle, 0, 3), INDEX);
        need(isIn(number, 0, 9), ARGUMENT);
        int before = pickers[aisle];
        pickers[aisle] = number;
        return before;
    }

    int giveBack(int number, int good, int bad) {
        Article article = article(number);
        need(isIn(good, 0, 20) && isIn(bad, 0, 20) && (good > 0 || bad > 0), ARGUMENT);
        int toShelf = Math.min(good, article.room - article.stock);
        need(article.reserve + good - toShelf <= 9999, STATE);
        article.stock += toShelf;
        article.reserve += good - toShelf;
        writtenOff += bad;
        return toShelf;
    }

    int writtenOff() {
        return writtenOff;
    }

    int order(int article, int amount, int carrier) {
        article(article);
        need(isIn(amount, 1, 20), ARGUMENT);
        need(isIn(carrier, 0, 2), ARGUMENT);
        need(orders.size() < 12, STATE);
        Order order = new Order();
        order.number = orders.size();
        order.article = article;
        order.amount = amount;
        order.carrier = carrier;
        orders.add(order);
        scan(order.number, 'n');
        return order.number;
    }

    int drop(int number) {
        Order order = orderOf(number);
        need(state(number) == 'o' || state(number) == 'p', STATE);
        scan(number, 'd');
        return free(order.article);
    }

    char state(int number) {
        orderOf(number);
        char state = '?';
        for (Scan scan : scans) {
            if (scan.order == number) {
                state = scan.sign == 'n' || scan.sign == 'u' ? 'o' : scan.sign;
            }
        }
        return state;
    }

    int amount(int order) {
        return orderOf(order).amount;
    }

    int orders() {
        return orders.size();
    }

    int pick(int number, int found) {
        Order order = orderOf(number);
        Article article = article(order.article);
        int rest = order.amount - found;
        need(isIn(found, 0, order.amount), ARGUMENT);
        need(!blocked[article.aisle], UNSUPPORTED);
        need(state(number) == 'p', STATE);
        need(rest == 0 || orders.size() < 12, STATE);
        if (rest == 0) {
            article.stock -= found;
            scan(number, 'k');
            return -1;
        }
        order.amount = found;
        scan(number, found > 0 ? 'k' : 'd');
        int split = order(order.article, rest, order.carrier);
        article.stock = 0;
        for (Order other : orders) {
            if (other.article == order.article && state(other.number) == 'p') {
                scan(other.number, 'u');
            }
        }
        return split;
    }

    int ship(int carrier) {
        need(isIn(carrier, 0, 2), INDEX);
        int before = scans.size();
        for (Order order : orders) {
            if (order.carrier == carrier && state(order.number) == 'k') {
                scan(order.number, 's');
            }
        }
        return scans.size() - before;
    }

    int setCutOff(int carrier, int cutOff) {
        need(isIn(carrier, 0, 2), INDEX);
        need(isIn(cutOff, 0, 1439), ARGUMENT);
        int before = cutOffs[carrier];
        cutOffs[carrier] = cutOff;
        return before;
    }

    int wave(int carrier) {
        need(isIn(carrier, 0, 2), INDEX);
        need(minute <= cutOffs[carrier], UNSUPPORTED);
        need(waves < 20, STATE);
        List<Order> looked = new ArrayList<>(orders);
        looked.removeIf(o -> o.carrier != carrier || state(o.number) != 'o');
        looked.sort(Comparator.<Order>comparingInt(o -> o.amount).thenComparingInt(o -> o.number));
        int before = scans.size();
        for (Order order : looked) {
            if (!blocked[article(order.article).aisle] && order.amount <= free(order.article)) {
                scan(order.number, 'p');
            }
        }
        waves++;
        return scans.size() - before;
    }

    int waveOf(int order) {
        orderOf(order);
        return scans.stream().filter(s -> s.order == order && s.sign == 'p').mapToInt(s -> s.wave).max()
                .orElseThrow(NoSuchElementException::new);
    }

    int waves() {
        return waves;
    }

    int minutesLeft(int carrier) {
        need(isIn(carrier, 0, 2), INDEX);
        return Math.max(-1, cutOffs[carrier] - minute);
    }

    int send(int robot, int number) {
        need(isIn(robot, 0, 1), INDEX);
        Article article = article(number);
        need(!blocked[article.aisle], UNSUPPORTED);
        need(robotArticle[robot] == IDLE, STATE);
        need(article.reserve > 0, NO_ELEMENT);
        need(article.room > article.stock, NO_ELEMENT);
        int other = robotArticle[1 - robot];
        boolean meets = other != IDLE && article(other).aisle == article.aisle;
        robotArticle[robot] = number;
        robotLoad[robot] = Math.min(Math.min(article.room - article.stock, article.reserve), 10);
        robotMinutes[robot] = 3 + 2 * pickers[article.aisle] + (meets ? 4 : 0);
        article.reserve -= robotLoad[robot];
        return robotMinutes[robot];
    }

    int carried(int robot) {
        need(isIn(robot, 0, 1), INDEX);
        return robotLoad[robot];
    }

    int minutesOf(int robot) {
        need(isIn(robot, 0, 1), INDEX);
        return robotMinutes[robot];
    }

    int aisleOf(int robot) {
        need(isIn(robot, 0, 1), INDEX);
        need(robotArticle[robot] != IDLE, NO_ELEMENT);
        return article(robotArticle[robot]).aisle;
    }

    int pass(int minutes) {
        need(isIn(minutes, 1, 60), ARGUMENT);
        need(minute + minutes <= 1439, ARGUMENT);
        int before = sumOfStocks();
        for (int end = minute + minutes; minute < end; minute++) {
            passMinuteOf(0);
            passMinuteOf(1);
        }
        return sumOfStocks() - before;
    }

    int minute() {
        return minute;
    }

    int scans() {
        return scans.size();
    }

    int scanOrder(int scan) {
        need(isIn(scan, 0, scans.size() - 1), INDEX);
        return scans.get(scan).order;
    }

    char scanSign(int scan) {
        need(isIn(scan, 0, scans.size() - 1), INDEX);
        return scans.get(scan).sign;
    }

    long shipped() {
        return sumOfAmounts(o -> state(o.number) == 's');
    }

    float shippedShare() {
        need(!orders.isEmpty(), NO_ELEMENT);
        float number = orders.stream().filter(o -> state(o.number) == 's').count();
        return number / (float) orders.size();
    }

    int articles() {
        return articles.size();
    }

    int articleOf(int order) {
        return orderOf(order).article;
    }

    int roomOf(int article) {
        return article(article).room;
    }

    private int sumOfStocks() {
        return articles.stream().mapToInt(a -> a.stock).sum();
    }

    /** On shelves, in reserves, with robots, and in orders that have left their shelf. */
    int allUnits() {
        int units = sumOfStocks() + robotLoad[0] + robotLoad[1];
        units += articles.stream().mapToInt(a -> a.reserve).sum();
        return units + sumOfAmounts(o -> state(o.number) == 'k' || state(o.number) == 's');
    }

    private int sumOfAmounts(Predicate<Order> which) {
        return orders.stream().filter(which).mapToInt(o -> o.amount).sum();
    }

    private void passMinuteOf(int robot) {
        if (robotArticle[robot] == IDLE || blocked[article(robotArticle[robot]).aisle]) {
            return;
        }
        robotMinutes[robot]--;
        if (robotMinutes[robot] == 0) {
            Article article = article(robotArticle[robot]);
            int toShelf = Math.min(article.room - article.stock, robotLoad[robot]);
            article.stock += toShelf;
            article.reserve += robotLoad[robot] - toShelf;
            robotArticle[robot] = IDLE;
            robotLoad[robot] = 0;
        }
    }

    private void scan(int order, char sign) {
        scans.add(new Scan(order, sign, waves));
    }

    private Article article(int article) {
        need(isIn(article, 0, articles.size() - 1), INDEX);
        return articles.get(article);
    }

    private Order orderOf(int order) {
        need(isIn(order, 0, orders.size() - 1), INDEX);
        return orders.get(order);
    }

    private static boolean isIn(int number, int least, int most) {
        return least <= number && number <= most;
    }

    private static void need(boolean holds, Supplier<RuntimeException> otherwise) {
        if (!holds) {
            throw otherwise.get();
        }
    }
}
