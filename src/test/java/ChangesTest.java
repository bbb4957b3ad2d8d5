/** Promises 1 to 9: a new object, and what changes it. */
public final class ChangesTest {
    private static final Class<IndexOutOfBoundsException> INDEX = IndexOutOfBoundsException.class;
    private static final Class<IllegalArgumentException> ARGUMENT = IllegalArgumentException.class;
    private static final Class<IllegalStateException> STATE = IllegalStateException.class;
    private static final int[] NOT_RESERVES = {-1, 100, Integer.MIN_VALUE, Integer.MAX_VALUE};
    private static final int[] NOT_AMOUNTS = {-1, 1000, Integer.MIN_VALUE, Integer.MAX_VALUE};
    private static final int[] NOT_THERE = {-1, 12, Integer.MIN_VALUE, Integer.MAX_VALUE};

    public static void main(String[] args) {
        newObject();
        field();
        setReserve();
        join();
        setIn();
        bid();
        bidIsRefused();
        setPrice();
        setWorth();
        withdraw();
        Check.end();
    }

    private static void newObject() {
        PastureBids sale = new PastureBids();
        for (int what = 0; what <= 8; what++) {
            Check.same("count(" + what + ") of a new object", 0, sale.count(what));
        }
        Check.same("rival() of a new object", -1, sale.rival());
        Check.same("mean() of a new object", 0.0, sale.mean());
        Check.refuses(sale, INDEX, "land(0, 0) of a new object", () -> sale.land(0, 0));
        Check.refuses(sale, INDEX, "alone(0, 0) of a new object", () -> sale.alone(0, 0));
        Check.refuses(sale, INDEX, "about(0, 0) of a new object", () -> sale.about(0, 0));
        Check.refuses(sale, INDEX, "told(0, 0) of a new object", () -> sale.told(0, 0));
        new PastureBids().field(1);
        Check.same("fields of the first of two objects", 0, sale.count(0));
    }

    private static void field() {
        PastureBids sale = new PastureBids();
        for (int field = 0; field < 8; field++) {
            for (int reserve : NOT_RESERVES) {
                Check.refuses(sale, ARGUMENT, "field(" + reserve + ")", () -> sale.field(reserve));
            }
            int reserve = field == 7 ? 99 : field;
            Check.same("field(" + reserve + ")", field, sale.field(reserve));
            Check.same("its reserve", reserve, sale.land(field, 0));
            Check.same("fields", field + 1, sale.count(0));
        }
        Check.refuses(sale, STATE, "a ninth field", () -> sale.field(0));
        Check.refuses(sale, ARGUMENT, "a ninth field, and 100", () -> sale.field(100));
    }

    private static void setReserve() {
        PastureBids sale = Sales.usual();
        Check.same("setReserve(0, 31)", 10, sale.setReserve(0, 31));
        Check.same("its reserve", 31, sale.land(0, 0));
        Check.same("another reserve", 20, sale.land(1, 0));
        Check.same("gain of a bid for it", 19, sale.told(0, 5));
        Check.same("gain of a bid for it and another", 29, sale.told(2, 5));
        Check.same("gain of a bid for another", 20, sale.told(1, 5));
        Check.same("sum of gains", 39, sale.count(3));
        Check.same("paid", 40, sale.about(0, 3));
        Check.same("setReserve(0, 0)", 31, sale.setReserve(0, 0));
        Check.same("setReserve(0, 99)", 0, sale.setReserve(0, 99));
        Check.same("a bid below the reserve wins", 0, sale.told(0, 7));
        Check.same("setReserve(2, 4)", 5, sale.setReserve(2, 4));
        Check.same("a bid at the reserve wins", 1, sale.told(3, 7));
        for (int field : new int[] {-1, 3, 8, Integer.MIN_VALUE, Integer.MAX_VALUE}) {
            Check.refuses(sale, INDEX, "setReserve(" + field + ", 1)", () -> sale.setReserve(field, 1));
            Check.refuses(sale, INDEX, "setReserve(" + field + ", 100)", () -> sale.setReserve(field, 100));
        }
        for (int reserve : NOT_RESERVES) {
            Check.refuses(sale, ARGUMENT, "setReserve(0, " + reserve + ")", () -> sale.setReserve(0, reserve));
        }
    }

    private static void join() {
        PastureBids sale = new PastureBids();
        for (int bidder = 0; bidder < 5; bidder++) {
            Check.same("join()", bidder, sale.join());
            Check.same("a new one is in", 1, sale.about(bidder, 0));
            Check.same("bidders", bidder + 1, sale.count(1));
        }
        Check.refuses(sale, STATE, "a sixth bidder", sale::join);
        PastureBids usual = Sales.usual();
        usual.join();
        Check.same("sum of gains without the newest", 60, usual.about(3, 5));
    }

    private static void setIn() {
        PastureBids sale = Sales.usual();
        Check.same("setIn(0, true)", true, sale.setIn(0, true));
        Check.same("setIn(0, false)", true, sale.setIn(0, false));
        Check.same("setIn(0, false) again", false, sale.setIn(0, false));
        Check.same("in", 0, sale.about(0, 0));
        Check.same("another is in", 1, sale.about(1, 0));
        Check.same("a bid of one who is out counts", 0, sale.told(0, 6));
        Check.same("the bid 2 wins", 1, sale.told(2, 7));
        Check.same("setIn(0, true) after out", false, sale.setIn(0, true));
        Check.same("in again", 1, sale.about(0, 0));
        Check.same("sum of gains as before", 60, sale.count(3));
        for (int bidder : new int[] {-1, 3, 5, Integer.MIN_VALUE, Integer.MAX_VALUE}) {
            Check.refuses(sale, INDEX, "setIn(" + bidder + ", false)", () -> sale.setIn(bidder, false));
        }
    }

    private static void bid() {
        PastureBids sale = Sales.with(2, 7, 0);
        Check.same("bid(1, 3, 999)", 0, sale.bid(1, 3, 999));
        Check.same("bid(0, 1, 0)", 1, sale.bid(0, 1, 0));
        int[] due = {1, 3, 999, 999, 0, 992, 1, 1};
        int[] dueBelow = {0, 1, 0, 0, 0, -7, 0, 0};
        for (int what = 0; what < due.length; what++) {
            Check.same("told(0, " + what + ")", due[what], sale.told(0, what));
            Check.same("told(1, " + what + ")", dueBelow[what], sale.told(1, what));
        }
        for (int number = 2; number < 12; number++) {
            Check.same("bid(0, 2, " + number + ")", number, sale.bid(0, 2, number));
            Check.same("bids told", number + 1, sale.count(2));
        }
        Check.refuses(sale, STATE, "a thirteenth bid", () -> sale.bid(0, 1, 1));
        Check.refuses(sale, ARGUMENT, "a thirteenth, for no field", () -> sale.bid(0, 0, 1));
        sale.withdraw(0);
        Check.refuses(sale, STATE, "a thirteenth bid after a withdrawal", () -> sale.bid(0, 1, 1));
    }

    private static void bidIsRefused() {
        PastureBids none = new PastureBids();
        Check.refuses(none, INDEX, "a bid without bidders", () -> none.bid(0, 1, 1));
        none.join();
        Check.refuses(none, ARGUMENT, "a bid without fields", () -> none.bid(0, 1, 1));
        PastureBids sale = Sales.usual();
        for (int bidder : new int[] {-1, 3, 5, Integer.MIN_VALUE, Integer.MAX_VALUE}) {
            Check.refuses(sale, INDEX, "bid(" + bidder + ", 1, 1)", () -> sale.bid(bidder, 1, 1));
            Check.refuses(sale, INDEX, "bid(" + bidder + ", 0, -1)", () -> sale.bid(bidder, 0, -1));
        }
        for (int fields : new int[] {0, -1, 8, 9, 256, Integer.MIN_VALUE, Integer.MAX_VALUE}) {
            Check.refuses(sale, ARGUMENT, "bid(0, " + fields + ", 1)", () -> sale.bid(0, fields, 1));
        }
        for (int price : NOT_AMOUNTS) {
            Check.refuses(sale, ARGUMENT, "bid(0, 1, " + price + ")", () -> sale.bid(0, 1, price));
        }
        Check.same("a bid for all three fields", 4, sale.bid(0, 7, 1));
        PastureBids all = Sales.with(1, 0, 0, 0, 0, 0, 0, 0, 0);
        Check.refuses(all, ARGUMENT, "a bid for a ninth of eight fields", () -> all.bid(0, 256, 1));
        Check.same("a bid for all eight fields", 0, all.bid(0, 255, 1));
    }

    private static void setPrice() {
        PastureBids sale = Sales.usual();
        Check.same("setPrice(2, 95)", 80, sale.setPrice(2, 95));
        Check.same("price", 95, sale.told(2, 2));
        Check.same("worth as it was", 80, sale.told(2, 3));
        Check.same("gain", 65, sale.told(2, 5));
        Check.same("wins", 1, sale.told(2, 7));
        Check.same("setPrice(2, 0)", 95, sale.setPrice(2, 0));
        Check.same("setPrice(2, 999)", 0, sale.setPrice(2, 999));
        refusesAmounts(sale, "setPrice", sale::setPrice);
    }

    private static void setWorth() {
        PastureBids sale = Sales.usual();
        Check.same("setWorth(0, 70)", 50, sale.setWorth(0, 70));
        Check.same("worth", 70, sale.told(0, 3));
        Check.same("price as it was", 50, sale.told(0, 2));
        Check.same("gain as it was", 40, sale.told(0, 5));
        Check.same("profit", 30, sale.about(0, 4));
        Check.same("setWorth(0, 0)", 70, sale.setWorth(0, 0));
        Check.same("profit below 0", -40, sale.about(0, 4));
        Check.same("setWorth(0, 999)", 0, sale.setWorth(0, 999));
        refusesAmounts(sale, "setWorth", sale::setWorth);
    }

    private interface Change {
        int of(int bid, int amount);
    }

    private static void refusesAmounts(PastureBids sale, String name, Change change) {
        for (int bid : NOT_THERE) {
            Check.refuses(sale, INDEX, name + "(" + bid + ", 1)", () -> change.of(bid, 1));
            Check.refuses(sale, INDEX, name + "(" + bid + ", -1)", () -> change.of(bid, -1));
        }
        Check.refuses(sale, INDEX, name + " of the first bid that is not told", () -> change.of(4, 1));
        for (int amount : NOT_AMOUNTS) {
            Check.refuses(sale, ARGUMENT, name + "(0, " + amount + ")", () -> change.of(0, amount));
        }
    }

    private static void withdraw() {
        PastureBids sale = Sales.usual();
        for (int bid : NOT_THERE) {
            Check.refuses(sale, INDEX, "withdraw(" + bid + ")", () -> sale.withdraw(bid));
        }
        Check.refuses(sale, INDEX, "withdraw(4)", () -> sale.withdraw(4));
        Check.same("withdraw(0)", 3, sale.withdraw(0));
        Check.same("is withdrawn", 1, sale.told(0, 4));
        Check.same("counts", 0, sale.told(0, 6));
        Check.same("wins", 0, sale.told(0, 7));
        Check.same("gain of one that is withdrawn", 40, sale.told(0, 5));
        Check.same("the bid 2 wins", 1, sale.told(2, 7));
        Check.same("bids told in all", 4, sale.count(2));
        Check.same("bids of the bidder that are left", 1, sale.about(0, 1));
        Check.refuses(sale, STATE, "withdraw(0) again", () -> sale.withdraw(0));
        sale.setIn(0, false);
        Check.same("withdraw(1), with a bidder out", 2, sale.withdraw(1));
        Check.same("withdraw(2)", 1, sale.withdraw(2));
        Check.same("withdraw(3)", 0, sale.withdraw(3));
        Check.same("sum of gains without bids", 0, sale.count(3));
    }
}
