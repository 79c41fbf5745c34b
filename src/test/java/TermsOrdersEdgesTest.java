/**
 * The edges in 'Terms': articles and aisles, orders, promises, waves, picking and scans. Above each test
 * stands its sentence.
 */
public final class TermsOrdersEdgesTest {
    private static final Check check = new Check();

    public static void main(String[] args) {
        the512thCall();
        atMost6Articles();
        aisleFrom0To3();
        roomIsTheMostThatAShelfHolds();
        anAisleCanBeBlocked();
        atMost12Orders();
        splitOnesAreCounted();
        amountFrom1To20();
        carrierFrom0To2();
        eachState();
        cutOffFrom0To1439();
        aisleIsNotBlocked();
        amountIsNotGreaterThanFree();
        minusAllPromisedOrders();
        openAgainByABlockedAisle();
        atMost20Waves();
        notBehindTheCutOff();
        lessAmountsFirst();
        sameAmountsByRisingNumbers();
        whetherThoseAheadCouldOrNot();
        foundIsTheAmount();
        lessWasFound();
        nothingWasFound();
        aNewOrderForTheRest();
        shelfStockBecomes0();
        otherPromisedOrdersBecomeOpen();
        scannedInThisOrder();
        eachSign();
        blockedAisleByRisingNumbers();
        shippedByRisingNumbers();
        check.end("TermsOrdersEdgesTest");
    }

    // An object is used for at most 512 calls after it has been made
    private static void the512thCall() {
        Pickwave x = Planners.oneArticle(0, 0, 1);
        for (int call = 2; call <= 511; call++) {
            check.is("call " + call, x.giveBack(0, 0, 20), 0);
        }
        check.is("call 512", x.writtenOff(), 510 * 20);
    }

    // At most 6 articles have the numbers 0 to n - 1 in the order in which they were added.
    private static void atMost6Articles() {
        Pickwave x = new Pickwave();
        for (int i = 0; i < 6; i++) {
            int article = i;
            check.isThrown("not yet added", Check.INDEX, x, () -> x.stock(article));
            check.is("addArticle", x.addArticle(3 - i % 4, i, 10 + i, 20), i);
        }
        check.isThrown("the seventh", Check.STATE, x, () -> x.addArticle(0, 7, 7, 20));
        for (int i = 0; i < 6; i++) {
            check.is("stock", x.stock(i), i);
            check.is("reserve", x.reserve(i), 10 + i);
        }
    }

    // An article lies in an aisle from 0 to 3
    private static void aisleFrom0To3() {
        for (int aisle = 0; aisle <= 3; aisle++) {
            Pickwave x = new Pickwave();
            x.addArticle(aisle, 0, 1, 1);
            x.send(0, 0);
            check.is("aisleOf", x.aisleOf(0), aisle);
        }
        Pickwave y = new Pickwave();
        check.isThrown("-1", Check.ARGUMENT, y, () -> y.addArticle(-1, 0, 1, 1));
        check.isThrown("4", Check.ARGUMENT, y, () -> y.addArticle(4, 0, 1, 1));
    }

    // a shelf room, which is the most that its shelf holds
    private static void roomIsTheMostThatAShelfHolds() {
        for (int room = 1; room <= 99; room++) {
            Pickwave x = Planners.oneArticle(room - 1, 5, room);
            check.is("the last unit", x.giveBack(0, 1, 0), 1);
            check.is("stock", x.stock(0), room);
            check.is("no room", x.giveBack(0, 1, 0), 0);
            check.is("stock", x.stock(0), room);
            Pickwave y = Planners.oneArticle(room - 1, 5, room);
            y.send(0, 0);
            check.is("the last unit", y.pass(3), 1);
            check.is("stock", y.stock(0), room);
        }
    }

    // An aisle can be blocked.
    private static void anAisleCanBeBlocked() {
        for (int blocked = 0; blocked < 4; blocked++) {
            Pickwave x = Planners.articles(4);
            for (int article = 0; article < 4; article++) {
                x.order(article, 1, 0);
            }
            x.setBlocked(blocked, true);
            check.is("all but one", x.wave(0), 3);
            check.isSign("in the blocked aisle", x.state(blocked), 'o');
        }
    }

    // At most 12 orders have the numbers 0 to n - 1 in the order in which they came
    private static void atMost12Orders() {
        Pickwave x = Planners.articles(1);
        for (int i = 0; i < 12; i++) {
            check.is("order", x.order(0, 1 + i, i % 3), i);
            check.is("orders", x.orders(), i + 1);
        }
        check.isThrown("the thirteenth", Check.STATE, x, () -> x.order(0, 1, 0));
        for (int i = 0; i < 12; i++) {
            check.is("amount", x.amount(i), 1 + i);
        }
    }

    // those that come by splitting are counted, too
    private static void splitOnesAreCounted() {
        Pickwave x = Planners.oneArticle(20, 0, 20);
        x.order(0, 20, 0);
        for (int number = 1; number < 12; number++) {
            x.wave(0);
            check.is("a split", x.pick(number - 1, 1), number);
            check.is("orders", x.orders(), number + 1);
            x.giveBack(0, 20, 0);
        }
        x.wave(0);
        check.isThrownUnseen("by splitting", Check.STATE, () -> x.pick(11, 1));
        check.isThrownUnseen("by an order", Check.STATE, () -> x.order(0, 1, 0));
        check.is("all of the twelfth", x.pick(11, 9), -1);
    }

    // an amount from 1 to 20
    private static void amountFrom1To20() {
        Pickwave x = Planners.articles(1);
        check.isThrown("0", Check.ARGUMENT, x, () -> x.order(0, 0, 0));
        check.is("1", x.order(0, 1, 0), 0);
        check.is("20", x.order(0, 20, 0), 1);
        check.isThrown("21", Check.ARGUMENT, x, () -> x.order(0, 21, 0));
        check.is("amount", x.amount(0), 1);
        check.is("amount", x.amount(1), 20);
    }

    // a carrier from 0 to 2
    private static void carrierFrom0To2() {
        for (int carrier = 0; carrier <= 2; carrier++) {
            Pickwave x = Planners.articles(1);
            x.order(0, 1, carrier);
            for (int other = 0; other <= 2; other++) {
                check.is("wave", x.wave(other), other == carrier ? 1 : 0);
            }
            x.pick(0, 1);
            for (int other = 0; other <= 2; other++) {
                check.is("ship", x.ship(other), other == carrier ? 1 : 0);
            }
        }
        Pickwave y = Planners.articles(1);
        check.isThrown("-1", Check.ARGUMENT, y, () -> y.order(0, 1, -1));
        check.isThrown("3", Check.ARGUMENT, y, () -> y.order(0, 1, 3));
    }

    // a state: open, 'o', promised, 'p', picked, 'k', shipped, 's', or dropped, 'd'
    private static void eachState() {
        Pickwave x = Planners.articles(1);
        x.order(0, 1, 0);
        check.isSign("open", x.state(0), 'o');
        x.wave(0);
        check.isSign("promised", x.state(0), 'p');
        x.pick(0, 1);
        check.isSign("picked", x.state(0), 'k');
        x.ship(0);
        check.isSign("shipped", x.state(0), 's');
        x.order(0, 1, 0);
        x.drop(1);
        check.isSign("dropped", x.state(1), 'd');
    }

    // A carrier has a cut-off, a minute of the day from 0 to 1439, at first 1439.
    private static void cutOffFrom0To1439() {
        Pickwave x = new Pickwave();
        for (int i = 0; i < 3; i++) {
            int carrier = i;
            check.is("at first", x.setCutOff(carrier, 0), 1439);
            check.is("0", x.minutesLeft(carrier), 0);
            check.isThrown("-1", Check.ARGUMENT, x, () -> x.setCutOff(carrier, -1));
            check.isThrown("1440", Check.ARGUMENT, x, () -> x.setCutOff(carrier, 1440));
            check.is("as it was", x.setCutOff(carrier, 1439), 0);
            check.is("1439", x.minutesLeft(carrier), 1439);
        }
    }

    // An open order is promised by a wave if the aisle of its article is not blocked
    private static void aisleIsNotBlocked() {
        Pickwave x = Planners.articles(2);
        x.order(0, 1, 0);
        x.setBlocked(0, true);
        check.is("blocked", x.wave(0), 0);
        x.setBlocked(1, true);
        x.setBlocked(0, false);
        check.isText("no wave, no promise", Look.states(x), "o");
        check.is("another aisle is blocked", x.wave(0), 1);
    }

    // its amount is not greater than what is free of the article
    private static void amountIsNotGreaterThanFree() {
        for (int amount = 1; amount <= 20; amount++) {
            isPromised(amount - 1, amount, 0);
            isPromised(amount, amount, 1);
            isPromised(amount + 1, amount, 1);
        }
        isPromised(0, 1, 0);
    }

    private static void isPromised(int stock, int amount, int due) {
        Pickwave x = Planners.oneArticle(stock, 99, 99);
        x.order(0, amount, 0);
        check.is(amount + " of " + stock, x.wave(0), due);
        check.is("free", x.free(0), stock - due * amount);
    }

    // what is free of the article: its shelf stock minus the amounts of all promised orders for it
    private static void minusAllPromisedOrders() {
        Pickwave x = Planners.oneArticle(10, 50, 20);
        x.addArticle(0, 10, 50, 20);
        x.order(0, 3, 0);
        x.order(0, 4, 1);
        x.order(1, 5, 0);
        check.is("open ones are not promised", x.free(0), 10);
        x.wave(0);
        x.wave(1);
        check.is("of all carriers, of this article", x.free(0), 3);
        x.order(0, 4, 2);
        x.order(0, 3, 2);
        check.is("just what is free", x.wave(2), 1);
        check.isText("4 is greater than 3, 3 is not", Look.states(x), "pppop");
        check.is("nothing", x.free(0), 0);
        x.drop(0);
        check.is("a dropped one is not promised", x.free(0), 3);
        x.pick(1, 4);
        check.is("a picked one is not, but it left the shelf", x.free(0), 3);
        x.ship(1);
        check.is("nor is a shipped one", x.free(0), 3);
    }

    // An order that is promised is open again if its aisle becomes blocked.
    private static void openAgainByABlockedAisle() {
        Pickwave x = Planners.articles(2);
        x.order(0, 1, 0);
        x.order(1, 1, 0);
        x.wave(0);
        x.setBlocked(1, false);
        check.isText("it was not blocked", Look.states(x), "pp");
        x.setBlocked(1, true);
        check.isText("only in its aisle", Look.states(x), "po");
        check.is("nothing is promised there", x.promised(1), 0);
        x.setBlocked(1, true);
        check.isText("it is open once", Look.scans(x), "0n 1n 0p 1p 1u");
        x.setBlocked(1, false);
        check.isText("it is open still", Look.states(x), "po");
    }

    // At most 20 waves have the numbers 0 to n - 1.
    private static void atMost20Waves() {
        Pickwave x = Planners.articles(1);
        x.order(0, 1, 0);
        for (int number = 0; number < 20; number++) {
            check.is("wave", x.wave(0), 1);
            check.is("its number", x.waveOf(0), number);
            check.is("waves", x.waves(), number + 1);
            x.setBlocked(0, true);
            x.setBlocked(0, false);
        }
        check.isThrownUnseen("the 21st", Check.STATE, () -> x.wave(0));
        check.isThrownUnseen("of another carrier", Check.STATE, () -> x.wave(1));
    }

    // the present minute, which must not be behind the cut-off of the carrier
    private static void notBehindTheCutOff() {
        Pickwave x = Planners.atMinute(100);
        x.setCutOff(0, 101);
        check.is("ahead of it", x.wave(0), 0);
        x.setCutOff(0, 100);
        check.is("at it", x.wave(0), 0);
        x.setCutOff(0, 99);
        check.isThrown("behind it", Check.UNSUPPORTED, x, () -> x.wave(0));
        check.is("another carrier", x.wave(1), 0);
        Pickwave y = Planners.atMinute(0);
        y.setCutOff(0, 0);
        check.is("at the first minute", y.wave(0), 0);
        Pickwave z = Planners.atMinute(1439);
        check.is("at the last minute", z.wave(0), 0);
    }

    // all open orders of the carrier, those with less amounts first
    private static void lessAmountsFirst() {
        Pickwave x = Planners.oneArticle(99, 0, 99);
        int[] amounts = {20, 1, 19, 2, 10, 11};
        for (int amount : amounts) {
            x.order(0, amount, 0);
        }
        check.is("wave", x.wave(0), 6);
        check.isText("from 1 to 20", Look.scans(x), "0n 1n 2n 3n 4n 5n 1p 3p 4p 5p 2p 0p");
        Pickwave y = Planners.oneArticle(20, 0, 20);
        y.order(0, 20, 0);
        y.order(0, 1, 0);
        check.is("wave", y.wave(0), 1);
        check.isText("1 takes what 20 needs", Look.states(y), "op");
    }

    // those of the same amount by rising numbers
    private static void sameAmountsByRisingNumbers() {
        Pickwave x = Planners.oneArticle(10, 0, 20);
        for (int i = 0; i < 12; i++) {
            x.order(0, 1, i == 0 ? 1 : 0);
        }
        String before = Look.scans(x);
        check.is("wave", x.wave(0), 10);
        check.isText("scans", Look.scans(x), before + " 1p 2p 3p 4p 5p 6p 7p 8p 9p 10p");
        check.isText("the last one has none", Look.states(x), "oppppppppppo");
    }

    // promises each one that can be promised then, whether those ahead of it could or not
    private static void whetherThoseAheadCouldOrNot() {
        Pickwave x = Planners.oneArticle(3, 0, 20);
        x.addArticle(1, 20, 0, 20);
        x.addArticle(2, 20, 0, 20);
        x.order(2, 1, 0);
        x.order(0, 4, 0);
        x.order(1, 4, 0);
        x.order(1, 17, 0);
        x.order(1, 16, 0);
        x.setBlocked(2, true);
        check.is("wave", x.wave(0), 2);
        check.isText("blocked, too much, free, too much, free", Look.states(x), "oopop");
    }

    // If this is the amount of the order, it is picked, and the shelf stock is less by it.
    private static void foundIsTheAmount() {
        Pickwave x = Planners.promised(20);
        check.is("no split", x.pick(0, 20), -1);
        check.is("all of the shelf", x.stock(0), 0);
        check.isSign("state", x.state(0), 'k');
        Pickwave y = Planners.oneArticle(9, 9, 9);
        y.order(0, 1, 0);
        y.wave(0);
        y.pick(0, 1);
        check.is("less by one", y.stock(0), 8);
        check.is("the reserve is as it was", y.reserve(0), 9);
    }

    // If less was found, the order is split: its amount becomes what was found, and it is picked
    private static void lessWasFound() {
        for (int found = 1; found < 20; found++) {
            Pickwave x = Planners.promised(20);
            check.is("a split", x.pick(0, found), 1);
            check.is("amount", x.amount(0), found);
            check.isSign("state", x.state(0), 'k');
        }
    }

    // or dropped if that is 0
    private static void nothingWasFound() {
        for (int amount = 1; amount <= 20; amount++) {
            Pickwave x = Planners.promised(amount);
            check.is("a split", x.pick(0, 0), 1);
            check.is("amount", x.amount(0), 0);
            check.isSign("state", x.state(0), 'd');
            check.isSign("state by all scans", x.stateByScans(0), 'd');
            check.is("it is not shipped", x.ship(0), 0);
            check.isThrown("it is dropped already", Check.STATE, x, () -> x.drop(0));
        }
    }

    // then a new order for the rest, with the same article and carrier, comes, which is open
    private static void aNewOrderForTheRest() {
        for (int found = 0; found < 20; found++) {
            Pickwave x = Planners.oneArticle(20, 0, 20);
            x.addArticle(1, 20, 0, 20);
            x.order(1, 20, 2);
            x.wave(2);
            check.is("its number", x.pick(0, found), 1);
            check.is("amount", x.amount(1), 20 - found);
            check.isSign("state", x.state(1), 'o');
            x.giveBack(1, 20, 0);
            check.is("the same carrier", x.wave(0) + x.wave(1) + 10 * x.wave(2), 10);
            check.is("the same article", x.promised(1), 20 - found);
        }
    }

    // the shelf stock becomes 0
    private static void shelfStockBecomes0() {
        for (int stock = 2; stock <= 99; stock++) {
            Pickwave x = Planners.oneArticle(stock, 7, 99);
            x.addArticle(0, 5, 5, 5);
            x.order(0, 2, 0);
            x.wave(0);
            x.pick(0, 1);
            check.is("stock", x.stock(0), 0);
            check.is("reserve", x.reserve(0), 7);
            check.is("another article of the aisle", x.stock(1), 5);
        }
    }

    // all other promised orders for the article become open, by rising numbers
    private static void otherPromisedOrdersBecomeOpen() {
        Pickwave x = Planners.oneArticle(50, 0, 99);
        x.addArticle(0, 50, 0, 99);
        x.order(0, 3, 1);
        x.order(1, 1, 0);
        x.order(0, 2, 0);
        x.order(0, 1, 2);
        x.order(0, 20, 0);
        for (int carrier = 0; carrier < 3; carrier++) {
            x.wave(carrier);
        }
        x.order(0, 1, 0);
        String before = Look.scans(x);
        x.pick(2, 0);
        check.isText("of all carriers, ahead of it and behind it", Look.states(x), "opdoooo");
        check.isText("by rising numbers", Look.scans(x), before + " 2d 6n 0u 3u 4u");
        check.is("nothing is promised", x.promised(0), 0);
        check.is("nor free", x.free(0), 0);
        check.is("another article of the aisle", x.promised(1), 1);
    }

    // All of this is scanned in this order.
    private static void scannedInThisOrder() {
        Pickwave x = Planners.orders(2);
        x.wave(0);
        x.order(0, 2, 0);
        x.wave(0);
        String before = Look.scans(x);
        x.pick(2, 1);
        check.isText("some", Look.scans(x), before + " 2k 3n 0u 1u");
        Pickwave y = Planners.promised(1);
        y.pick(0, 0);
        check.isText("nothing, and no other order", Look.scans(y), "0n 0p 0d 1n");
        Pickwave z = Planners.promised(1);
        z.pick(0, 1);
        check.isText("all", Look.scans(z), "0n 0p 0k");
    }

    // 'n' when it comes, 'p' promised, 'u' open again, 'k' picked, 'd' dropped, 's' shipped
    private static void eachSign() {
        Pickwave x = Planners.promised(1);
        x.setBlocked(0, true);
        x.setBlocked(0, false);
        x.wave(0);
        x.pick(0, 1);
        x.ship(0);
        x.order(0, 1, 0);
        x.drop(1);
        check.isText("scans", Look.scans(x), "0n 0p 0u 0p 0k 0s 1n 1d");
    }

    // Orders that become open by a blocked aisle [...] are scanned by rising numbers.
    private static void blockedAisleByRisingNumbers() {
        Pickwave x = Planners.oneArticle(50, 0, 99);
        x.addArticle(0, 50, 0, 99);
        x.order(1, 9, 2);
        x.order(0, 8, 1);
        x.order(1, 7, 0);
        for (int carrier = 0; carrier < 3; carrier++) {
            x.wave(carrier);
        }
        String before = Look.scans(x);
        check.isText("promised by falling numbers", before, "0n 1n 2n 2p 1p 0p");
        x.setBlocked(0, true);
        check.isText("open by rising ones", Look.scans(x), before + " 0u 1u 2u");
    }

    // picked ones that are shipped, are scanned by rising numbers
    private static void shippedByRisingNumbers() {
        Pickwave x = Planners.orders(3);
        x.wave(0);
        x.pick(2, 1);
        x.pick(1, 1);
        x.pick(0, 1);
        String before = Look.scans(x);
        x.ship(0);
        check.isText("shipped by rising numbers", Look.scans(x), before + " 0s 1s 2s");
    }
}
