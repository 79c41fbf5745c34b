/** Promises 20 to 24: waves. */
public final class WavesTest {
    private static final Check check = new Check();

    public static void main(String[] args) {
        promise20SetCutOff();
        promise20WrongCutOffs();
        promise21WhichOrders();
        promise21LessAmountsFirst();
        promise21SameAmountsByNumbers();
        promise21ThoseBehindOneThatCannotBePromised();
        promise21BlockedAisles();
        promise21CutOff();
        promise21MostWaves();
        promise22WaveOf();
        promise23Waves();
        promise24MinutesLeft();
        promises19To24WrongCarriers();
        check.end("WavesTest");
    }

    private static Pickwave oneArticle(int stock) {
        Pickwave x = new Pickwave();
        x.addArticle(0, stock, 0, 99);
        return x;
    }

    private static void promise20SetCutOff() {
        Pickwave x = new Pickwave();
        for (int carrier = 0; carrier < 3; carrier++) {
            check.is("at first", x.setCutOff(carrier, 100 + carrier), 1439);
        }
        check.is("the least", x.setCutOff(0, 0), 100);
        check.is("the most", x.setCutOff(0, 1439), 0);
        check.is("as it was set", x.setCutOff(0, 5), 1439);
        check.is("another carrier", x.setCutOff(2, 5), 102);
        x.pass(10);
        check.is("one that is over", x.setCutOff(1, 3), 101);
        check.is("and again", x.setCutOff(1, 3), 3);
    }

    private static void promise20WrongCutOffs() {
        Pickwave x = new Pickwave();
        check.isThrown("-1", Check.ARGUMENT, x, () -> x.setCutOff(0, -1));
        check.isThrown("1440", Check.ARGUMENT, x, () -> x.setCutOff(0, 1440));
        check.isThrown("both wrong", Check.INDEX, x, () -> x.setCutOff(3, 1440));
        for (int far : Check.FAR_OFF) {
            check.isThrown("far off", Check.ARGUMENT, x, () -> x.setCutOff(0, far));
        }
    }

    private static void promise21WhichOrders() {
        Pickwave x = oneArticle(50);
        x.addArticle(1, 50, 0, 99);
        x.order(0, 1, 0);
        x.order(1, 2, 0);
        x.order(0, 3, 1);
        x.order(0, 4, 0);
        x.drop(3);
        check.is("open ones of the carrier", x.wave(0), 2);
        check.isText("states", Look.states(x), "ppod");
        check.is("promised ones are not promised twice", x.wave(0), 0);
        x.pick(0, 1);
        check.is("nor picked ones", x.wave(0), 0);
        x.ship(0);
        check.is("nor shipped ones", x.wave(0), 0);
        check.isText("states", Look.states(x), "spod");
        check.is("a carrier without orders", x.wave(2), 0);
    }

    private static void promise21LessAmountsFirst() {
        Pickwave x = oneArticle(10);
        x.order(0, 6, 0);
        x.order(0, 5, 0);
        x.order(0, 3, 0);
        x.order(0, 1, 0);
        check.is("wave", x.wave(0), 3);
        check.isText("those with less amounts first", Look.scans(x), "0n 1n 2n 3n 3p 2p 1p");
        check.is("free", x.free(0), 1);
        Pickwave y = oneArticle(40);
        y.order(0, 20, 0);
        y.order(0, 19, 0);
        y.order(0, 1, 0);
        check.is("just all of it", y.wave(0), 3);
        check.is("free", y.free(0), 0);
        check.isText("states", Look.states(y), "ppp");
    }

    private static void promise21SameAmountsByNumbers() {
        Pickwave x = oneArticle(9);
        x.addArticle(1, 9, 0, 9);
        x.order(0, 4, 0);
        x.order(1, 4, 0);
        x.order(0, 4, 0);
        x.order(0, 4, 0);
        x.order(0, 2, 0);
        check.is("wave", x.wave(0), 3);
        check.isText("by rising numbers", Look.scans(x), "0n 1n 2n 3n 4n 4p 0p 1p");
    }

    private static void promise21ThoseBehindOneThatCannotBePromised() {
        Pickwave x = oneArticle(1);
        x.addArticle(1, 20, 0, 20);
        x.order(0, 2, 0);
        x.order(1, 3, 0);
        x.order(1, 20, 0);
        x.order(1, 17, 0);
        check.is("whether those ahead of it could or not", x.wave(0), 2);
        check.isText("states", Look.states(x), "opop");
    }

    private static void promise21BlockedAisles() {
        Pickwave x = oneArticle(50);
        x.addArticle(1, 50, 0, 99);
        x.order(0, 1, 0);
        x.order(1, 1, 0);
        x.setBlocked(0, true);
        check.is("only in the open aisle", x.wave(0), 1);
        check.isText("states", Look.states(x), "op");
        x.setBlocked(0, false);
        check.is("open again", x.wave(0), 1);
        check.isText("states", Look.states(x), "pp");
    }

    private static void promise21CutOff() {
        Pickwave x = oneArticle(50);
        x.order(0, 1, 1);
        x.setCutOff(1, 10);
        x.pass(10);
        check.is("at the cut-off", x.wave(1), 1);
        x.pass(1);
        check.isThrown("behind it", Check.UNSUPPORTED, x, () -> x.wave(1));
        check.is("another carrier", x.wave(0), 0);
        x.setCutOff(1, 11);
        check.is("a later one", x.wave(1), 0);
        check.is("all of these", x.waves(), 3);
    }

    private static void promise21MostWaves() {
        Pickwave x = oneArticle(50);
        x.order(0, 1, 0);
        for (int i = 0; i < 20; i++) {
            check.is("wave", x.wave(i % 3), i == 0 ? 1 : 0);
        }
        check.isThrown("the 21st", Check.STATE, x, () -> x.wave(0));
        check.isThrown("the 21st for no carrier", Check.INDEX, x, () -> x.wave(3));
        x.setCutOff(0, 0);
        x.pass(1);
        check.isThrown("the 21st, and behind the cut-off", Check.UNSUPPORTED, x, () -> x.wave(0));
    }

    private static void promise22WaveOf() {
        Pickwave x = oneArticle(10);
        x.order(0, 4, 0);
        x.order(0, 7, 0);
        check.isThrown("never promised", Check.NO_ELEMENT, x, () -> x.waveOf(0));
        x.wave(1);
        check.isThrown("another carrier's wave", Check.NO_ELEMENT, x, () -> x.waveOf(0));
        x.wave(0);
        check.is("the second one", x.waveOf(0), 1);
        check.isThrown("not enough was free", Check.NO_ELEMENT, x, () -> x.waveOf(1));
        x.wave(0);
        check.is("it is promised already", x.waveOf(0), 1);
        x.setBlocked(0, true);
        check.is("open again", x.waveOf(0), 1);
        x.wave(0);
        check.is("blocked", x.waveOf(0), 1);
        x.setBlocked(0, false);
        x.wave(0);
        check.is("for the last time", x.waveOf(0), 4);
        x.pick(0, 4);
        check.is("picked", x.waveOf(0), 4);
        x.ship(0);
        check.is("shipped", x.waveOf(0), 4);
        x.drop(1);
        check.isThrown("dropped", Check.NO_ELEMENT, x, () -> x.waveOf(1));
        check.isThrown("no order", Check.INDEX, x, () -> x.waveOf(2));
    }

    private static void promise23Waves() {
        Pickwave x = oneArticle(10);
        check.is("none", x.waves(), 0);
        x.wave(0);
        check.is("one that promises nothing", x.waves(), 1);
        x.wave(2);
        check.is("of all carriers", x.waves(), 2);
        x.setCutOff(0, 0);
        x.pass(1);
        check.isThrown("one that cannot begin", Check.UNSUPPORTED, x, () -> x.wave(0));
        check.is("is not counted", x.waves(), 2);
    }

    private static void promise24MinutesLeft() {
        Pickwave x = new Pickwave();
        check.is("at first", x.minutesLeft(0), 1439);
        x.setCutOff(1, 10);
        check.is("another carrier", x.minutesLeft(0), 1439);
        check.is("up to the cut-off", x.minutesLeft(1), 10);
        x.pass(9);
        check.is("one", x.minutesLeft(1), 1);
        x.pass(1);
        check.is("none", x.minutesLeft(1), 0);
        x.pass(1);
        check.is("over", x.minutesLeft(1), -1);
        x.pass(60);
        check.is("long over", x.minutesLeft(1), -1);
        check.is("not over", x.minutesLeft(2), 1439 - 71);
    }

    private static void promises19To24WrongCarriers() {
        isNoCarrier(3);
        for (int far : Check.FAR_OFF) {
            isNoCarrier(far);
        }
    }

    private static void isNoCarrier(int carrier) {
        Pickwave x = new Pickwave();
        check.isThrown("ship", Check.INDEX, x, () -> x.ship(carrier));
        check.isThrown("setCutOff", Check.INDEX, x, () -> x.setCutOff(carrier, 5));
        check.isThrown("wave", Check.INDEX, x, () -> x.wave(carrier));
        check.isThrown("minutesLeft", Check.INDEX, x, () -> x.minutesLeft(carrier));
    }
}
