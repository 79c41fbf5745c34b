import java.util.NoSuchElementException;

/** All that can be read of a planner without changing it, as one text. */
final class Look {
    private Look() {
    }

    static String at(Pickwave planner) {
        StringBuilder text = new StringBuilder();
        lookAtArticles(planner, text);
        lookAtOrders(planner, text);
        lookAtRobots(planner, text);
        for (int carrier = 0; carrier < 3; carrier++) {
            text.append(" left ").append(planner.minutesLeft(carrier));
        }
        text.append(" minute ").append(planner.minute()).append(" waves ").append(planner.waves());
        text.append(" written off ").append(planner.writtenOff());
        text.append(" shipped ").append(planner.shipped()).append('\n');
        text.append(scans(planner));
        return text.toString();
    }

    /** The scans as a text such as "0n 1n 0p". */
    static String scans(Pickwave planner) {
        StringBuilder text = new StringBuilder();
        for (int i = 0; i < planner.scans(); i++) {
            text.append(i == 0 ? "" : " ").append(planner.scanOrder(i)).append(planner.scanSign(i));
        }
        return text.toString();
    }

    /** The states of all orders as a text such as "opk". */
    static String states(Pickwave planner) {
        StringBuilder text = new StringBuilder();
        for (int i = 0; i < planner.orders(); i++) {
            text.append(planner.state(i));
        }
        return text.toString();
    }

    static String statesByScans(Pickwave planner) {
        StringBuilder text = new StringBuilder();
        for (int i = 0; i < planner.orders(); i++) {
            text.append(planner.stateByScans(i));
        }
        return text.toString();
    }

    private static void lookAtArticles(Pickwave planner, StringBuilder text) {
        for (int i = 0; hasArticle(planner, i); i++) {
            text.append("article ").append(i);
            text.append(" stock ").append(planner.stock(i)).append(" reserve ").append(planner.reserve(i));
            text.append(" free ").append(planner.free(i)).append(" promised ").append(planner.promised(i));
            text.append(" by scans ").append(planner.promisedByScans(i)).append('\n');
        }
    }

    private static void lookAtOrders(Pickwave planner, StringBuilder text) {
        for (int i = 0; i < planner.orders(); i++) {
            text.append("order ").append(i).append(' ').append(planner.state(i));
            text.append(planner.stateByScans(i)).append(" amount ").append(planner.amount(i));
            text.append(" wave ").append(waveOf(planner, i)).append('\n');
        }
    }

    private static void lookAtRobots(Pickwave planner, StringBuilder text) {
        for (int i = 0; i < 2; i++) {
            text.append("robot ").append(i).append(" carries ").append(planner.carried(i));
            text.append(" minutes ").append(planner.minutesOf(i));
            text.append(" aisle ").append(aisleOf(planner, i)).append('\n');
        }
    }

    private static boolean hasArticle(Pickwave planner, int article) {
        try {
            planner.stock(article);
            return true;
        } catch (IndexOutOfBoundsException e) {
            return false;
        }
    }

    private static int waveOf(Pickwave planner, int order) {
        try {
            return planner.waveOf(order);
        } catch (NoSuchElementException e) {
            return -1;
        }
    }

    private static int aisleOf(Pickwave planner, int robot) {
        try {
            return planner.aisleOf(robot);
        } catch (NoSuchElementException e) {
            return -1;
        }
    }
}
