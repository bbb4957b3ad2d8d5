import java.util.function.Supplier;

/** Promises 1 to 9: a test of its own for each sentence that names a boundary case, told in the test's name. */
public final class EdgesOfChangesTest {
    private static final Class<IndexOutOfBoundsException> INDEX = IndexOutOfBoundsException.class;
    private static final Class<IllegalArgumentException> ARGUMENT = IllegalArgumentException.class;
    private static final Class<IllegalStateException> STATE = IllegalStateException.class;
    // 256, 65536 and their like would pass for a small number where one is cut to fewer bits.
    private static final int[] NOT_RESERVES = {-1, 100, 256, 65536, Integer.MIN_VALUE, Integer.MAX_VALUE};
    private static final int[] NOT_AMOUNTS = {-1, 1000, 65536, 66000, Integer.MIN_VALUE, Integer.MAX_VALUE};
    private static final int[] NO_FIELDS = {-1, 3, 8, 256, Integer.MIN_VALUE, Integer.MAX_VALUE};
    private static final int[] NO_BIDDERS = {-1, 3, 5, 256, Integer.MIN_VALUE, Integer.MAX_VALUE};
    private static final int[] NO_BIDS = {-1, 4, 12, 256, Integer.MIN_VALUE, Integer.MAX_VALUE};

    public static void main(String[] args) {
        newObject();
        field();
        setReserve();
        join();
        setIn();
        bid();
        bidOfWrongNumbers();
        bidBeyondTheLast();
        setPrice();
        setWorth();
        withdraw();
        lastCalls();
        Check.end();
    }

    private static void newObject() {
        Check.test("promise 1: a sale without fields and bidders", () -> {
            PastureBids sale = new PastureBids();
            for (int what = 0; what <= 8; what++) {
                Check.same("count(" + what + ")", 0, sale.count(what));
            }
        });
        Check.test("promise 1: without fields, so that 0 is not the number of one", () -> {
            Twins.refuse(PastureBids::new, INDEX, "setReserve(0, 1)", sale -> sale.setReserve(0, 1));
            Twins.refuse(PastureBids::new, INDEX, "land(0, 0)", sale -> sale.land(0, 0));
            Twins.refuse(PastureBids::new, INDEX, "alone(0, 0)", sale -> sale.alone(0, 0));
        });
        Check.test("promise 1: without bidders, so that 0 is not the number of one", () -> {
            Twins.refuse(PastureBids::new, INDEX, "setIn(0, true)", sale -> sale.setIn(0, true));
            Twins.refuse(PastureBids::new, INDEX, "bid(0, 1, 1)", sale -> sale.bid(0, 1, 1));
            Twins.refuse(PastureBids::new, INDEX, "about(0, 0)", sale -> sale.about(0, 0));
        });
        Check.test("promise 1: without bids, so that 0 is not the number of one", () -> {
            Twins.refuse(PastureBids::new, INDEX, "setPrice(0, 1)", sale -> sale.setPrice(0, 1));
            Twins.refuse(PastureBids::new, INDEX, "setWorth(0, 1)", sale -> sale.setWorth(0, 1));
            Twins.refuse(PastureBids::new, INDEX, "withdraw(0)", sale -> sale.withdraw(0));
            Twins.refuse(PastureBids::new, INDEX, "told(0, 0)", sale -> sale.told(0, 0));
            Twins.refuse(PastureBids::new, INDEX, "would(0, 1, 0)", sale -> sale.would(0, 1, 0));
            Twins.refuse(PastureBids::new, INDEX, "least(0)", sale -> sale.least(0));
        });
        Check.test("promise 1: a second object is new, whatever the first holds", () -> {
            PastureBids first = Sales.full();
            Check.same("digest() of the second", new PastureBids().digest(), new PastureBids().digest());
            Check.same("fields of the second", 0, new PastureBids().count(0));
            Check.same("fields of the first", 8, first.count(0));
        });
    }

    private static void field() {
        Check.test("promise 2: a reserve is 0 to 99, both ends taken", () -> {
            PastureBids sale = new PastureBids();
            Check.same("field(0)", 0, sale.field(0));
            Check.same("field(99)", 1, sale.field(99));
            Check.same("the least reserve", 0, sale.land(0, 0));
            Check.same("the greatest reserve", 99, sale.land(1, 0));
        });
        Check.test("promise 2: IllegalArgumentException if reserve is not 0 to 99", () -> {
            for (int reserve : NOT_RESERVES) {
                Twins.refuse(PastureBids::new, ARGUMENT, "field(" + reserve + ")", sale -> sale.field(reserve));
                Twins.refuse(Sales::usual, ARGUMENT, "field(" + reserve + ")", sale -> sale.field(reserve));
            }
        });
        Check.test("promise 2: fields are numbered from 0, and there are at most 8", () -> {
            PastureBids sale = new PastureBids();
            for (int field = 0; field < 8; field++) {
                Check.same("field()", field, sale.field(90 + field));
            }
            for (int field = 0; field < 8; field++) {
                Check.same("the reserve of " + field, 90 + field, sale.land(field, 0));
            }
        });
        Check.test("promise 2: IllegalStateException if there are 8", () -> {
            Twins.refuse(Sales::full, STATE, "field(0)", sale -> sale.field(0));
            Twins.refuse(Sales::fullWithoutBids, STATE, "field(99)", sale -> sale.field(99));
        });
        Check.test("promise 2: if both apply, IllegalArgumentException, named first", () -> {
            for (int reserve : NOT_RESERVES) {
                Twins.refuse(Sales::full, ARGUMENT, "field(" + reserve + ")", sale -> sale.field(reserve));
            }
        });
        Check.test("promise 2: a field that is refused takes no number", () -> {
            PastureBids sale = Sales.with(0, 5, 6);
            Check.throwsJust(ARGUMENT, "field(100)", () -> sale.field(100));
            Check.same("field(7) behind it", 2, sale.field(7));
            Check.same("its reserve", 7, sale.land(2, 0));
        });
    }

    private static void setReserve() {
        Check.test("promise 3: a reserve is 0 to 99, both ends taken", () -> {
            PastureBids sale = Sales.usual();
            Check.same("setReserve(1, 0)", 20, sale.setReserve(1, 0));
            Check.same("the least", 0, sale.land(1, 0));
            Check.same("setReserve(1, 99)", 0, sale.setReserve(1, 99));
            Check.same("the greatest", 99, sale.land(1, 0));
        });
        Check.test("promise 3: returns the one before, if it is the same as well", () -> {
            PastureBids sale = Sales.usual();
            Check.same("setReserve(2, 99)", 5, sale.setReserve(2, 99));
            Check.same("setReserve(2, 99) again", 99, sale.setReserve(2, 99));
            Check.same("of the last of 8 fields", 77, Sales.full().setReserve(7, 1));
        });
        Check.test("promise 3: from now on, so that a bid counts at a gain of 0 and not at -1", () -> {
            PastureBids sale = Sales.usual();
            sale.setReserve(0, 50);
            Check.same("gain at the price", 0, sale.told(0, 5));
            Check.same("counts at the price", 1, sale.told(0, 6));
            sale.setReserve(0, 51);
            Check.same("gain above the price", -1, sale.told(0, 5));
            Check.same("counts above the price", 0, sale.told(0, 6));
        });
        Check.test("promise 3: IndexOutOfBoundsException if there is no such field", () -> {
            for (int field : NO_FIELDS) {
                Twins.refuse(Sales::usual, INDEX, "setReserve(" + field + ", 1)", sale -> sale.setReserve(field, 1));
            }
            Twins.refuse(Sales::full, INDEX, "setReserve(8, 1)", sale -> sale.setReserve(8, 1));
        });
        Check.test("promise 3: IllegalArgumentException if reserve is not 0 to 99", () -> {
            for (int reserve : NOT_RESERVES) {
                Twins.refuse(Sales::usual, ARGUMENT, "setReserve(0, " + reserve + ")",
                        sale -> sale.setReserve(0, reserve));
            }
        });
        Check.test("promise 3: if both apply, IndexOutOfBoundsException, named first", () -> {
            for (int field : NO_FIELDS) {
                Twins.refuse(Sales::usual, INDEX, "setReserve(" + field + ", 100)",
                        sale -> sale.setReserve(field, 100));
            }
        });
    }

    private static void join() {
        Check.test("promise 4: bidders are numbered from 0, and there are at most 5", () -> {
            PastureBids sale = new PastureBids();
            for (int bidder = 0; bidder < 5; bidder++) {
                Check.same("join()", bidder, sale.join());
            }
            Check.same("bidders", 5, sale.count(1));
        });
        Check.test("promise 4: each is in at first", () -> {
            PastureBids sale = Sales.with(1, 0);
            sale.setIn(0, false);
            for (int bidder = 1; bidder < 5; bidder++) {
                sale.join();
                Check.same("in behind one who is out", 1, sale.about(bidder, 0));
            }
            Check.same("the one who is out", 0, sale.about(0, 0));
        });
        Check.test("promise 4: IllegalStateException if there are 5", () -> {
            Twins.refuse(Sales::full, STATE, "join()", PastureBids::join);
            Twins.refuse(() -> Sales.with(5), STATE, "join() without fields", PastureBids::join);
        });
        Check.test("promise 4: there are 5, if all of them are out as well", () -> {
            Supplier<PastureBids> allOut = () -> {
                PastureBids sale = Sales.full();
                for (int bidder = 0; bidder < 5; bidder++) {
                    sale.setIn(bidder, false);
                }
                return sale;
            };
            Twins.refuse(allOut, STATE, "join()", PastureBids::join);
        });
    }

    private static void setIn() {
        Check.test("promise 5: returns whether this one was, if nothing changes as well", () -> {
            PastureBids sale = Sales.full();
            Check.same("setIn(4, true) of one who is in", true, sale.setIn(4, true));
            Check.same("setIn(4, false)", true, sale.setIn(4, false));
            Check.same("setIn(4, false) of one who is out", false, sale.setIn(4, false));
            Check.same("setIn(4, true)", false, sale.setIn(4, true));
        });
        Check.test("promise 5: with all of them out nothing wins", () -> {
            PastureBids sale = Sales.usual();
            for (int bidder = 0; bidder < 3; bidder++) {
                sale.setIn(bidder, false);
            }
            for (int what = 3; what <= 8; what++) {
                Check.same("count(" + what + ")", 0, sale.count(what));
            }
        });
        Check.test("promise 5: out and in again, all is as before", () -> Twins.keep(Sales::full, "out and in", sale -> {
            sale.setIn(2, false);
            sale.setIn(2, true);
        }));
        Check.test("promise 5: IndexOutOfBoundsException if there is no such bidder", () -> {
            for (int bidder : NO_BIDDERS) {
                Twins.refuse(Sales::usual, INDEX, "setIn(" + bidder + ", false)", sale -> sale.setIn(bidder, false));
                Twins.refuse(Sales::usual, INDEX, "setIn(" + bidder + ", true)", sale -> sale.setIn(bidder, true));
            }
            Twins.refuse(Sales::full, INDEX, "setIn(5, false)", sale -> sale.setIn(5, false));
        });
    }

    private static void bid() {
        Check.test("promise 6: a price is 0 to 999, both ends taken, and is the worth", () -> {
            PastureBids sale = Sales.with(1, 0);
            Check.same("bid(0, 1, 0)", 0, sale.bid(0, 1, 0));
            Check.same("bid(0, 1, 999)", 1, sale.bid(0, 1, 999));
            for (int what = 2; what <= 3; what++) {
                Check.same("told(0, " + what + ")", 0, sale.told(0, what));
                Check.same("told(1, " + what + ")", 999, sale.told(1, what));
            }
        });
        Check.test("promise 6: a bundle is from one field to all that there are", () -> {
            PastureBids sale = Sales.fullWithoutBids();
            Check.same("bid(4, 1, 1)", 0, sale.bid(4, 1, 1));
            Check.same("bid(4, 128, 1)", 1, sale.bid(4, 128, 1));
            Check.same("bid(4, 255, 1)", 2, sale.bid(4, 255, 1));
            Check.same("all eight", 255, sale.told(2, 1));
            Check.same("both of two", 0, Sales.with(1, 0, 0).bid(0, 3, 1));
        });
        Check.test("promise 6: a bid of one who is out is told", () -> {
            PastureBids sale = Sales.with(1, 0);
            sale.setIn(0, false);
            Check.same("bid(0, 1, 9)", 0, sale.bid(0, 1, 9));
            Check.same("its bidder", 0, sale.told(0, 0));
            Check.same("counts", 0, sale.told(0, 6));
        });
        Check.test("promise 6: bids are numbered from 0, at most 12, each as it was told", () -> {
            PastureBids sale = Sales.fullWithoutBids();
            for (int bid = 0; bid < 12; bid++) {
                Check.same("bid()", bid, sale.bid(bid % 5, 1 << bid % 8, 900 + bid));
            }
            for (int bid = 0; bid < 12; bid++) {
                Check.same("the bidder of " + bid, bid % 5, sale.told(bid, 0));
                Check.same("the fields of " + bid, 1 << bid % 8, sale.told(bid, 1));
                Check.same("the price of " + bid, 900 + bid, sale.told(bid, 2));
            }
        });
        Check.test("promise 6: a bid that is refused takes no number", () -> {
            PastureBids sale = Sales.usual();
            Check.throwsJust(ARGUMENT, "bid(1, 1, 1000)", () -> sale.bid(1, 1, 1000));
            Check.same("bid(2, 4, 9) behind it", 4, sale.bid(2, 4, 9));
            Check.same("its price", 9, sale.told(4, 2));
        });
    }

    private static void bidOfWrongNumbers() {
        Check.test("promise 6: IndexOutOfBoundsException if there is no such bidder", () -> {
            for (int bidder : NO_BIDDERS) {
                Twins.refuse(Sales::usual, INDEX, "bid(" + bidder + ", 1, 1)", sale -> sale.bid(bidder, 1, 1));
            }
            Twins.refuse(() -> Sales.with(5, 1), INDEX, "bid(5, 1, 1) of five", sale -> sale.bid(5, 1, 1));
        });
        Check.test("promise 6: IllegalArgumentException if fields is 0 or less", () -> {
            for (int fields : new int[] {0, -1, -8, Integer.MIN_VALUE, Integer.MIN_VALUE + 1}) {
                Twins.refuse(Sales::usual, ARGUMENT, "bid(0, " + fields + ", 1)", sale -> sale.bid(0, fields, 1));
                Twins.refuse(Sales::fullWithoutBids, ARGUMENT, "bid(0, " + fields + ", 1) of eight",
                        sale -> sale.bid(0, fields, 1));
            }
        });
        Check.test("promise 6: IllegalArgumentException if fields has a field that there is not", () -> {
            for (int fields : new int[] {8, 9, 15, 128, 256, 257, 1 << 30, Integer.MAX_VALUE}) {
                Twins.refuse(Sales::usual, ARGUMENT, "bid(0, " + fields + ", 1)", sale -> sale.bid(0, fields, 1));
            }
            for (int fields : new int[] {256, 257, 511, 65537, 1 << 30, Integer.MAX_VALUE}) {
                Twins.refuse(Sales::fullWithoutBids, ARGUMENT, "bid(0, " + fields + ", 1) of eight",
                        sale -> sale.bid(0, fields, 1));
            }
            Twins.refuse(() -> Sales.with(1), ARGUMENT, "bid(0, 1, 1) of none", sale -> sale.bid(0, 1, 1));
        });
        Check.test("promise 6: a field that there is not yet can be bid for when there is", () -> {
            PastureBids sale = Sales.usual();
            Check.throwsJust(ARGUMENT, "bid(0, 8, 1)", () -> sale.bid(0, 8, 1));
            sale.field(0);
            Check.same("bid(0, 8, 1)", 4, sale.bid(0, 8, 1));
        });
        Check.test("promise 6: IllegalArgumentException if price is not 0 to 999", () -> {
            for (int price : NOT_AMOUNTS) {
                Twins.refuse(Sales::usual, ARGUMENT, "bid(0, 1, " + price + ")", sale -> sale.bid(0, 1, price));
            }
        });
        Check.test("promise 6: without such a bidder IndexOutOfBoundsException, named before the others", () -> {
            for (int bidder : NO_BIDDERS) {
                Twins.refuse(Sales::usual, INDEX, "bid(" + bidder + ", 0, 1)", sale -> sale.bid(bidder, 0, 1));
                Twins.refuse(Sales::usual, INDEX, "bid(" + bidder + ", 8, 1)", sale -> sale.bid(bidder, 8, 1));
                Twins.refuse(Sales::usual, INDEX, "bid(" + bidder + ", 1, -1)", sale -> sale.bid(bidder, 1, -1));
            }
        });
    }

    private static void bidBeyondTheLast() {
        Check.test("promise 6: IllegalStateException if 12 were told", () -> {
            Twins.refuse(Sales::full, STATE, "bid(0, 1, 0)", sale -> sale.bid(0, 1, 0));
            Twins.refuse(Sales::full, STATE, "bid(4, 255, 999)", sale -> sale.bid(4, 255, 999));
        });
        Check.test("promise 6: 12 in all, those that are withdrawn as well", () -> {
            Supplier<PastureBids> withdrawn = () -> {
                PastureBids sale = Sales.full();
                for (int bid = 0; bid < 12; bid++) {
                    sale.withdraw(bid);
                }
                return sale;
            };
            Twins.refuse(withdrawn, STATE, "bid(0, 1, 1)", sale -> sale.bid(0, 1, 1));
        });
        Check.test("promise 6: with 12 told the exceptions named first go first", () -> {
            Twins.refuse(Sales::full, INDEX, "bid(5, 1, 1)", sale -> sale.bid(5, 1, 1));
            Twins.refuse(Sales::full, INDEX, "bid(-1, 0, 1000)", sale -> sale.bid(-1, 0, 1000));
            Twins.refuse(Sales::full, ARGUMENT, "bid(0, 0, 1)", sale -> sale.bid(0, 0, 1));
            Twins.refuse(Sales::full, ARGUMENT, "bid(0, 256, 1)", sale -> sale.bid(0, 256, 1));
            Twins.refuse(Sales::full, ARGUMENT, "bid(0, 1, -1)", sale -> sale.bid(0, 1, -1));
            Twins.refuse(Sales::full, ARGUMENT, "bid(0, 1, 1000)", sale -> sale.bid(0, 1, 1000));
        });
    }

    private static void setPrice() {
        Check.test("promise 7: a price is 0 to 999, both ends taken, the worth as it was", () -> {
            PastureBids sale = Sales.full();
            Check.same("setPrice(11, 0)", 227, sale.setPrice(11, 0));
            Check.same("the least", 0, sale.told(11, 2));
            Check.same("setPrice(11, 999)", 0, sale.setPrice(11, 999));
            Check.same("the greatest", 999, sale.told(11, 2));
            Check.same("the worth", 227, sale.told(11, 3));
        });
        Check.test("promise 7: returns the one before, if it is the same as well", () -> {
            PastureBids sale = Sales.usual();
            Check.same("setPrice(0, 50)", 50, sale.setPrice(0, 50));
            Check.same("setPrice(0, 50) again", 50, sale.setPrice(0, 50));
        });
        Check.test("promise 7: from now on, so that a bid counts at a gain of 0 and not at -1", () -> {
            PastureBids sale = Sales.usual();
            sale.setPrice(2, 30);
            Check.same("counts at the reserves", 1, sale.told(2, 6));
            sale.setPrice(2, 29);
            Check.same("counts below the reserves", 0, sale.told(2, 6));
        });
        Check.test("promise 7: IndexOutOfBoundsException if there is no such bid", () -> {
            for (int bid : NO_BIDS) {
                Twins.refuse(Sales::usual, INDEX, "setPrice(" + bid + ", 1)", sale -> sale.setPrice(bid, 1));
            }
            Twins.refuse(Sales::full, INDEX, "setPrice(12, 1)", sale -> sale.setPrice(12, 1));
        });
        Check.test("promise 7: IllegalArgumentException if price is not 0 to 999", () -> {
            for (int price : NOT_AMOUNTS) {
                Twins.refuse(Sales::usual, ARGUMENT, "setPrice(0, " + price + ")", sale -> sale.setPrice(0, price));
            }
        });
        Check.test("promise 7: if both apply, IndexOutOfBoundsException, named first", () -> {
            for (int bid : NO_BIDS) {
                Twins.refuse(Sales::usual, INDEX, "setPrice(" + bid + ", 1000)", sale -> sale.setPrice(bid, 1000));
            }
        });
    }

    private static void setWorth() {
        Check.test("promise 8: a worth is 0 to 999, both ends taken, the price as it was", () -> {
            PastureBids sale = Sales.full();
            Check.same("setWorth(11, 0)", 227, sale.setWorth(11, 0));
            Check.same("the least", 0, sale.told(11, 3));
            Check.same("setWorth(11, 999)", 0, sale.setWorth(11, 999));
            Check.same("the greatest", 999, sale.told(11, 3));
            Check.same("the price", 227, sale.told(11, 2));
        });
        Check.test("promise 8: returns the one before, if it is the same as well", () -> {
            PastureBids sale = Sales.usual();
            Check.same("setWorth(0, 50)", 50, sale.setWorth(0, 50));
            Check.same("setWorth(0, 50) again", 50, sale.setWorth(0, 50));
        });
        Check.test("promise 8: IndexOutOfBoundsException if there is no such bid", () -> {
            for (int bid : NO_BIDS) {
                Twins.refuse(Sales::usual, INDEX, "setWorth(" + bid + ", 1)", sale -> sale.setWorth(bid, 1));
            }
            Twins.refuse(Sales::full, INDEX, "setWorth(12, 1)", sale -> sale.setWorth(12, 1));
        });
        Check.test("promise 8: IllegalArgumentException if worth is not 0 to 999", () -> {
            for (int worth : NOT_AMOUNTS) {
                Twins.refuse(Sales::usual, ARGUMENT, "setWorth(0, " + worth + ")", sale -> sale.setWorth(0, worth));
            }
        });
        Check.test("promise 8: if both apply, IndexOutOfBoundsException, named first", () -> {
            for (int bid : NO_BIDS) {
                Twins.refuse(Sales::usual, INDEX, "setWorth(" + bid + ", 1000)", sale -> sale.setWorth(bid, 1000));
            }
        });
    }

    private static void withdraw() {
        Check.test("promise 9: returns how many are not withdrawn then, from 11 of 12 to 0", () -> {
            PastureBids sale = Sales.full();
            sale.setIn(3, false);
            for (int left = 11; left >= 0; left--) {
                Check.same("withdraw(" + left + ")", left, sale.withdraw(left));
            }
        });
        Check.test("promise 9: a bid below the reserves is not withdrawn, and can be", () -> {
            PastureBids sale = Sales.usual();
            Check.same("withdraw(0)", 3, sale.withdraw(0));
            Check.same("withdraw(3)", 2, sale.withdraw(3));
        });
        Check.test("promise 9: for good, whatever is set then", () -> {
            PastureBids sale = Sales.usual();
            sale.withdraw(2);
            sale.setPrice(2, 999);
            sale.setWorth(2, 999);
            sale.setReserve(0, 0);
            sale.setIn(2, false);
            sale.setIn(2, true);
            Check.same("is withdrawn", 1, sale.told(2, 4));
            Check.same("counts", 0, sale.told(2, 6));
            Check.same("wins", 0, sale.told(2, 7));
        });
        Check.test("promise 9: IndexOutOfBoundsException if there is no such bid", () -> {
            for (int bid : NO_BIDS) {
                Twins.refuse(Sales::usual, INDEX, "withdraw(" + bid + ")", sale -> sale.withdraw(bid));
            }
            Twins.refuse(Sales::full, INDEX, "withdraw(12)", sale -> sale.withdraw(12));
        });
        Check.test("promise 9: IllegalStateException if it is withdrawn", () -> {
            Supplier<PastureBids> withdrawn = () -> {
                PastureBids sale = Sales.full();
                sale.withdraw(0);
                sale.withdraw(11);
                return sale;
            };
            Twins.refuse(withdrawn, STATE, "withdraw(0)", sale -> sale.withdraw(0));
            Twins.refuse(withdrawn, STATE, "withdraw(11)", sale -> sale.withdraw(11));
        });
    }

    private static void lastCalls() {
        Check.test("promises 1 to 19: an object is used for at most 512 calls, the last as good as the first", () -> {
            PastureBids sale = Sales.full();
            int rival = sale.rival();
            long digest = sale.digest();
            for (int pair = 0; pair < 241; pair++) {
                sale.setPrice(11, pair);
                sale.setPrice(11, 227);
            }
            // Making the sale took 25 calls; with 2 and 241 pairs it is 509.
            Check.same("rival() as the call 510", rival, sale.rival());
            Check.throwsJust(STATE, "join() as the call 511", sale::join);
            Check.same("digest() as the call 512", digest, sale.digest());
        });
    }
}
