import java.util.function.Supplier;

/**
 * What a planner answers from now on, as one text. It shows what no reading call tells: rooms, blocked
 * aisles, pickers, cut-offs that are over, and the articles and carriers of orders and robots.
 */
final class After {
    private final Pickwave planner;
    private final StringBuilder text = new StringBuilder();

    private After(Pickwave planner) {
        this.planner = planner;
    }

    static String of(Pickwave planner) {
        After after = new After(planner);
        after.beginWaves();
        after.shipAll();
        after.openAisles();
        after.beginWaves();
        after.pickAll();
        after.shipAll();
        after.sendRobots();
        after.fillShelves();
        return after.text.append(Look.at(planner)).toString();
    }

    private void beginWaves() {
        for (int i = 0; i < 3; i++) {
            int carrier = i;
            answer("wave", () -> planner.wave(carrier));
            answer("cut-off", () -> planner.setCutOff(carrier, 1439));
        }
    }

    private void shipAll() {
        for (int i = 0; i < 3; i++) {
            int carrier = i;
            answer("ship", () -> planner.ship(carrier));
        }
    }

    private void openAisles() {
        for (int i = 0; i < 4; i++) {
            int aisle = i;
            answer("blocked", () -> planner.setBlocked(aisle, false));
            answer("pickers", () -> planner.setPickers(aisle, 0));
        }
    }

    private void pickAll() {
        for (int i = 0; i < planner.orders(); i++) {
            int order = i;
            answer("pick", () -> planner.pick(order, planner.amount(order)));
        }
    }

    private void sendRobots() {
        answer("pass", () -> planner.pass(1));
        answer("send", () -> planner.send(0, 3));
        answer("send", () -> planner.send(1, 0));
        answer("pass", () -> planner.pass(7));
    }

    private void fillShelves() {
        for (int i = 0; i < 6; i++) {
            int article = i;
            answer("give back", () -> planner.giveBack(article, 20, 1));
        }
    }

    private void answer(String what, Supplier<Object> call) {
        text.append(what).append(' ');
        try {
            text.append(call.get());
        } catch (RuntimeException e) {
            text.append(e.getClass().getSimpleName());
        }
        text.append('\n');
    }
}
