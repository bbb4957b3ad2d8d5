import java.math.BigInteger;
import java.util.function.Supplier;

/** Promises 15 to 19: a test of its own for each sentence that names a boundary case, told in the test's name. */
public final class EdgesOfImaginedTest {
    private static final Class<IndexOutOfBoundsException> INDEX = IndexOutOfBoundsException.class;
    private static final Class<IllegalArgumentException> ARGUMENT = IllegalArgumentException.class;
    private static final int[] NO_BIDS = {-1, 4, 12, 256, Integer.MIN_VALUE, Integer.MAX_VALUE};
    private static final int[] NO_WHATS = {-1, 4, 256, Integer.MIN_VALUE, Integer.MAX_VALUE};
    private static final int[] NOT_PRICES = {-1, 1000, 65536, 66000, Integer.MIN_VALUE, Integer.MAX_VALUE};

    public static void main(String[] args) {
        would();
        wouldOfPricesAtTheEnds();
        wouldOfOthers();
        wouldIsRefused();
        least();
        leastOfEquals();
        leastIsNone();
        rival();
        rivalOfSeveral();
        mean();
        digest();
        digestWrapsAround();
        Check.end();
    }

    private static void wouldAll(PastureBids sale, int bid, int price, int... due) {
        for (int what = 0; what < due.length; what++) {
            Check.same("would(" + bid + ", " + price + ", " + what + ")", due[what], sale.would(bid, price, what));
        }
    }

    private static void would() {
        Check.test("promise 15: 1 if it won, else 0, by 1 more or less", () -> {
            PastureBids sale = Sales.usual();
            // Gains of 61 and 60 against the 60 of the bids 0 and 1.
            wouldAll(sale, 2, 91, 1, 90, -10, 61);
            wouldAll(sale, 2, 90, 0, 0, 0, 60);
        });
        Check.test("promise 15: at the reserves it would count, at 1 less it would not", () -> {
            PastureBids sale = Sales.with(1, 99, 99);
            sale.bid(0, 3, 0);
            wouldAll(sale, 0, 198, 1, 198, -198, 0);
            wouldAll(sale, 0, 197, 0, 0, 0, 0);
        });
        Check.test("promise 15: its worth as it is, not as the price", () -> {
            PastureBids sale = Sales.with(1, 10);
            sale.bid(0, 1, 50);
            wouldAll(sale, 0, 999, 1, 10, 40, 989);
            sale.setWorth(0, 3);
            wouldAll(sale, 0, 50, 1, 10, -7, 40);
        });
        Check.test("promise 15: the price that it has is answered as the sale stands", () -> {
            PastureBids sale = Sales.full();
            for (int bid = 0; bid < 12; bid++) {
                int bidder = sale.told(bid, 0);
                wouldAll(sale, bid, sale.told(bid, 2), sale.told(bid, 7), sale.about(bidder, 3),
                        sale.about(bidder, 4), sale.count(3));
            }
        });
        Check.test("promise 15: nothing is changed", () -> Twins.keep(Sales::full, "would()", sale -> {
            for (int bid = 0; bid < 12; bid++) {
                sale.would(bid, 0, bid % 4);
                sale.would(bid, 999, bid % 4);
            }
        }));
    }

    private static void wouldOfPricesAtTheEnds() {
        Check.test("promise 15: a price of 0 is taken", () -> {
            PastureBids sale = Sales.with(2, 0, 1);
            sale.bid(0, 1, 50);
            sale.bid(1, 2, 50);
            wouldAll(sale, 0, 0, 1, 0, 50, 49);
            wouldAll(sale, 1, 0, 0, 0, 0, 50);
        });
        Check.test("promise 15: a price of 999 is taken", () -> {
            PastureBids sale = Sales.with(2, 0);
            sale.bid(0, 1, 998);
            sale.bid(1, 1, 5);
            wouldAll(sale, 1, 999, 1, 998, -993, 999);
            sale.setPrice(0, 999);
            wouldAll(sale, 1, 999, 0, 0, 0, 999);
        });
    }

    private static void wouldOfOthers() {
        Check.test("promise 15: what is paid and the profit by whichever bid of this one won", () -> {
            PastureBids sale = Sales.usual();
            sale.setWorth(0, 100);
            // The bid 0 wins, whatever the bid 3 of the same bidder is.
            wouldAll(sale, 3, 5, 0, 40, 60, 60);
            wouldAll(sale, 3, 100, 1, 5, -1, 145);
        });
        Check.test("promise 15: 0 for a bidder who would win with none", () -> {
            PastureBids sale = Sales.usual();
            sale.setWorth(1, 999);
            wouldAll(sale, 1, 19, 0, 0, 0, 50);
        });
        Check.test("promise 15: one that is withdrawn would not win at any price", () -> {
            PastureBids sale = Sales.usual();
            sale.withdraw(2);
            wouldAll(sale, 2, 999, 0, 0, 0, 60);
        });
        Check.test("promise 15: one of a bidder who is out would not win at any price", () -> {
            PastureBids sale = Sales.usual();
            sale.setIn(0, false);
            wouldAll(sale, 0, 999, 0, 0, 0, 50);
        });
    }

    private static void wouldIsRefused() {
        Check.test("promise 15: IndexOutOfBoundsException if there is no such bid", () -> {
            for (int bid : NO_BIDS) {
                for (int what = 0; what <= 3; what++) {
                    int asked = what;
                    Twins.refuse(Sales::usual, INDEX, "would(" + bid + ", 1, " + what + ")",
                            sale -> sale.would(bid, 1, asked));
                }
            }
            Twins.refuse(Sales::full, INDEX, "would(12, 1, 0)", sale -> sale.would(12, 1, 0));
        });
        Check.test("promise 15: IndexOutOfBoundsException if what is not 0 to 3", () -> {
            for (int what : NO_WHATS) {
                Twins.refuse(Sales::usual, INDEX, "would(0, 1, " + what + ")", sale -> sale.would(0, 1, what));
            }
        });
        Check.test("promise 15: IllegalArgumentException if price is not 0 to 999", () -> {
            for (int price : NOT_PRICES) {
                for (int what = 0; what <= 3; what++) {
                    int asked = what;
                    Twins.refuse(Sales::usual, ARGUMENT, "would(0, " + price + ", " + what + ")",
                            sale -> sale.would(0, price, asked));
                }
            }
        });
        Check.test("promise 15: if both apply, IndexOutOfBoundsException, named first", () -> {
            for (int price : NOT_PRICES) {
                Twins.refuse(Sales::usual, INDEX, "would(4, " + price + ", 0)", sale -> sale.would(4, price, 0));
                Twins.refuse(Sales::usual, INDEX, "would(0, " + price + ", 4)", sale -> sale.would(0, price, 4));
                Twins.refuse(Sales::usual, INDEX, "would(0, " + price + ", -1)", sale -> sale.would(0, price, -1));
            }
        });
    }

    private static void least() {
        Check.test("promise 16: the least price can be 0", () -> {
            PastureBids sale = Sales.with(1, 0);
            sale.bid(0, 1, 500);
            Check.same("without others", 0, sale.least(0));
            sale.bid(0, 1, 0);
            sale.withdraw(0);
            Check.same("of a price of 0", 0, sale.least(1));
        });
        Check.test("promise 16: the least price can be 999", () -> {
            PastureBids sale = Sales.with(2, 0);
            sale.bid(0, 1, 998);
            sale.bid(1, 1, 0);
            Check.same("more than 998", 999, sale.least(1));
            sale.setPrice(1, 999);
            Check.same("as much as 999, with the smaller number", 999, sale.least(0));
        });
        Check.test("promise 16: the least price can be each one between 0 and 999", () -> {
            for (int highest = 0; highest < 999; highest++) {
                PastureBids sale = Sales.with(2, 0);
                sale.bid(0, 1, highest);
                sale.bid(1, 1, 500);
                Check.same("more than " + highest, highest + 1, sale.least(1));
            }
        });
        Check.test("promise 16: without others it is the reserves of all its fields, up to 792", () -> {
            PastureBids sale = Sales.with(1, 99, 99, 99, 99, 99, 99, 99, 99);
            sale.bid(0, 255, 0);
            sale.bid(0, 1, 0);
            Check.same("of all fields", 792, sale.least(0));
            Check.same("of one field", 99, sale.least(1));
        });
        Check.test("promise 16: with the least price it wins, with 1 less it does not", () -> {
            PastureBids sale = Sales.full();
            int found = 0;
            for (int bid = 0; bid < 12; bid++) {
                int least = sale.least(bid);
                found += least > 0 ? 1 : 0;
                Check.same("at the least of " + bid, least >= 0 ? 1 : 0, sale.would(bid, Math.max(least, 0), 0));
                Check.same("at 1 less of " + bid, 0, sale.would(bid, Math.max(least - 1, 0), 0));
            }
            Check.same("how many have a least price", 12, found);
        });
        Check.test("promise 16: nothing is changed", () -> Twins.keep(Sales::full, "least()", sale -> {
            for (int bid = 0; bid < 12; bid++) {
                sale.least(bid);
            }
        }));
        Check.test("promise 16: IndexOutOfBoundsException if there is no such bid", () -> {
            for (int bid : NO_BIDS) {
                Twins.refuse(Sales::usual, INDEX, "least(" + bid + ")", sale -> sale.least(bid));
            }
            Twins.refuse(Sales::full, INDEX, "least(12)", sale -> sale.least(12));
        });
    }

    private static void leastOfEquals() {
        Check.test("promise 16, Terms: as much is enough for the smaller number, and not for the greater one", () -> {
            PastureBids sale = Sales.with(2, 10);
            sale.bid(0, 1, 40);
            sale.bid(1, 1, 40);
            Check.same("of the first", 40, sale.least(0));
            Check.same("of the second", 41, sale.least(1));
        });
        Check.test("promise 16, Terms: as much is enough for more bids, and not for fewer", () -> {
            PastureBids sale = Sales.with(3, 0, 0);
            sale.bid(0, 3, 20);
            sale.bid(1, 1, 9);
            sale.bid(2, 2, 10);
            Check.same("of one of two", 10, sale.least(1));
            Check.same("of one for both", 20, sale.least(0));
            sale.setPrice(1, 10);
            Check.same("of one against two with as much", 21, sale.least(0));
        });
        Check.test("promise 16, Terms: another bid of this bidder must be beaten as well", () -> {
            PastureBids sale = Sales.with(1, 0, 5);
            sale.bid(0, 1, 40);
            sale.bid(0, 2, 7);
            Check.same("of the greater number", 46, sale.least(1));
            Check.same("of the smaller number", 2, sale.least(0));
        });
    }

    private static void leastIsNone() {
        Check.test("promise 16: -1 without one, if 999 is not enough", () -> {
            PastureBids sale = Sales.with(2, 0);
            sale.bid(0, 1, 999);
            sale.bid(1, 1, 999);
            Check.same("of the greater number", -1, sale.least(1));
            PastureBids reserved = Sales.with(2, 0, 1);
            reserved.bid(0, 1, 999);
            reserved.bid(1, 3, 999);
            Check.same("with a reserve of 1 more", -1, reserved.least(1));
        });
        Check.test("promise 16: -1 without one, if it is withdrawn", () -> {
            PastureBids sale = Sales.usual();
            sale.withdraw(0);
            Check.same("least(0)", -1, sale.least(0));
        });
        Check.test("promise 16: -1 without one, if its bidder is out", () -> {
            PastureBids sale = Sales.usual();
            sale.setIn(0, false);
            Check.same("least(0)", -1, sale.least(0));
            Check.same("least(3)", -1, sale.least(3));
        });
    }

    private static void rival() {
        Check.test("promise 17: -1 without bidders", () -> {
            Check.same("of a new object", -1, new PastureBids().rival());
            Check.same("with fields", -1, Sales.with(0, 1, 2, 3).rival());
        });
        Check.test("promise 17: with one bidder this one, though nobody pays", () -> {
            PastureBids sale = Sales.with(1, 0);
            Check.same("without bids", 0, sale.rival());
            sale.bid(0, 1, 50);
            Check.same("with a bid", 0, sale.rival());
            sale.setIn(0, false);
            Check.same("out", 0, sale.rival());
        });
        Check.test("promise 17: in or out", () -> {
            PastureBids sale = Sales.with(3, 10);
            sale.bid(0, 1, 50);
            sale.setIn(1, false);
            // Without 0 nobody pays, without 1 or 2 the bidder 0 pays 10.
            Check.same("one who is out", 1, sale.rival());
            sale.setIn(1, true);
            sale.setIn(2, false);
            Check.same("one who is in", 1, sale.rival());
        });
        Check.test("promise 17: the last of 5 bidders", () -> {
            PastureBids sale = Sales.with(5, 0, 0, 0, 0);
            for (int bidder = 0; bidder < 4; bidder++) {
                sale.bid(bidder, 1 << bidder, 50);
            }
            sale.setReserve(0, 10);
            sale.setReserve(1, 10);
            sale.setReserve(2, 10);
            sale.setReserve(3, 10);
            Check.same("rival()", 4, sale.rival());
        });
        Check.test("promise 17: nothing is changed", () -> Twins.keep(Sales::full, "rival()", sale -> {
            sale.rival();
            sale.rival();
        }));
        Check.test("promise 17: nothing is changed with some out", () -> {
            Supplier<PastureBids> someOut = () -> {
                PastureBids sale = Sales.full();
                sale.setIn(0, false);
                sale.setIn(3, false);
                return sale;
            };
            Twins.keep(someOut, "rival()", PastureBids::rival);
        });
    }

    private static void rivalOfSeveral() {
        Check.test("promise 17: of several the one with the smallest number, if nobody pays", () -> {
            Check.same("of five without bids", 0, Sales.with(5, 9).rival());
        });
        Check.test("promise 17: of several the one with the smallest number, if they pay as much", () -> {
            PastureBids sale = Sales.with(4, 0);
            sale.bid(0, 1, 30);
            sale.bid(1, 1, 40);
            sale.bid(2, 1, 40);
            sale.bid(3, 1, 40);
            // Without 0, 1 or 2 as without 3 the price of 40 is paid.
            Check.same("with all alike", 0, sale.rival());
            sale.withdraw(3);
            // Without 0 or 3 it is 40 that is paid, without 1 or 2 it is 30.
            Check.same("with two alike", 0, sale.rival());
            sale.setPrice(0, 50);
            // Without 0, 1, 2 or 3 it is 40 once more.
            Check.same("with the first the highest", 0, sale.rival());
            sale.setPrice(1, 45);
            // Without 0 or 1 it is 40 that is paid, without 2 or 3 it is 45.
            Check.same("with the last two alike", 2, sale.rival());
        });
    }

    private static void mean() {
        Check.test("promise 18: 0 without any", () -> {
            Check.same("of a new object", 0.0, new PastureBids().mean());
            Check.same("without bids", 0.0, Sales.with(5, 99).mean());
            PastureBids sale = Sales.with(1, 10);
            sale.bid(0, 1, 9);
            Check.same("without one that counts", 0.0, sale.mean());
        });
        Check.test("promise 18: of those who pay nothing it is 0", () -> {
            PastureBids sale = Sales.with(2, 0, 0);
            sale.bid(0, 1, 10);
            sale.bid(1, 2, 10);
            Check.same("mean()", 0.0, sale.mean());
        });
        Check.test("promise 18: of one it is what this one pays, up to 999", () -> {
            PastureBids sale = Sales.with(2, 0);
            sale.bid(0, 1, 999);
            sale.bid(1, 1, 999);
            Check.same("mean()", 999.0, sale.mean());
        });
        Check.test("promise 18: the mean is a double and is not cut", () -> {
            PastureBids sale = Sales.with(5, 0, 0, 0, 0, 0);
            for (int bidder = 0; bidder < 5; bidder++) {
                sale.bid(bidder, 1 << bidder, 10);
            }
            sale.setReserve(4, 9);
            Check.same("of five", 1.8, sale.mean());
            sale.setIn(0, false);
            sale.setIn(1, false);
            sale.setReserve(4, 1);
            Check.same("of three", 1.0 / 3.0, sale.mean());
        });
        Check.test("promise 18: of those who win alone, not of those who are in", () -> {
            PastureBids sale = Sales.with(5, 8);
            sale.bid(3, 1, 10);
            Check.same("mean()", 8.0, sale.mean());
        });
    }

    private static void digest() {
        Check.test("promise 19: a number d starts with 1619, and of a new object nine times 0 follows", () -> {
            Check.same("digest()", exact(new int[9]).longValue(), new PastureBids().digest());
        });
        Check.test("promise 19: each field, land() and then alone(), those that are -1 too", () -> {
            int[] numbers = {2, 0, 0, 0, 0, 0, 0, 0, 0, 5, -1, 0, -1, -1, -1, 99, -1, 0, -1, -1, -1};
            Check.same("digest()", exact(numbers).longValue(), Sales.with(0, 5, 99).digest());
        });
        Check.test("promise 19: each bidder, what about() tells, -1 too", () -> {
            int[] numbers = {0, 2, 0, 0, 0, 0, 0, 0, 0, 1, 0, -1, 0, 0, 0, 0, 0, -1, 0, 0, 0};
            PastureBids sale = Sales.with(2);
            sale.setIn(1, false);
            Check.same("digest()", exact(numbers).longValue(), sale.digest());
        });
        Check.test("promise 19: each bid, what told() tells, less than 0 too", () -> {
            int[] numbers = {1, 1, 1, 0, 0, 0, 0, 0, 0, 99, -1, 0, -1, -1, -1, 1, 1, -1, 0, 0, 0,
                0, 1, 4, 4, 0, -95, 0, 0};
            PastureBids sale = Sales.with(1, 99);
            sale.bid(0, 1, 4);
            Check.same("digest()", exact(numbers).longValue(), sale.digest());
        });
    }

    private static void digestWrapsAround() {
        Check.test("promise 19: wraps around as a 64-bit integer, with as much as there can be", () -> {
            PastureBids sale = Sales.full();
            BigInteger exact = exact(allNumbers(sale));
            if (exact.bitLength() < 640) {
                Check.report("the number is too small for a wrap-around: " + exact);
            }
            Check.same("digest()", exact.longValue(), sale.digest());
        });
        Check.test("promise 19: wraps around to less than 0, and on to more", () -> {
            // A 64-bit integer holds 1619 with 10 numbers behind it, and no more.
            PastureBids two = Sales.with(2);
            BigInteger exactOfTwo = exact(0, 2, 0, 0, 0, 0, 0, 0, 0, 1, 0, -1, 0, 0, 0, 1, 0, -1, 0, 0, 0);
            Check.same("wrapped to less", -1, exactOfTwo.signum() * Long.signum(exactOfTwo.longValue()));
            Check.same("digest() of two bidders", exactOfTwo.longValue(), two.digest());
            PastureBids one = Sales.with(0, 0);
            BigInteger exactOfOne = exact(1, 0, 0, 0, 0, 0, 0, 0, 0, 0, -1, 0, -1, -1, -1);
            Check.same("wrapped to more", 1, exactOfOne.signum() * Long.signum(exactOfOne.longValue()));
            Check.same("digest() of one field", exactOfOne.longValue(), one.digest());
        });
        Check.test("promise 19: the longest digest that does not wrap around is that of a new object", () -> {
            BigInteger exact = exact(new int[9]);
            Check.same("bits", true, exact.bitLength() > 32 && exact.bitLength() < 64);
            Check.same("digest()", exact.longValueExact(), new PastureBids().digest());
        });
    }

    /** The checksum without a wrap-around. */
    private static BigInteger exact(int... numbers) {
        BigInteger exact = BigInteger.valueOf(1619);
        for (int number : numbers) {
            exact = exact.multiply(BigInteger.valueOf(31)).add(BigInteger.valueOf(number));
        }
        return exact;
    }

    /** What the digest is made of, asked one by one. */
    private static int[] allNumbers(PastureBids sale) {
        int fields = sale.count(0);
        int bidders = sale.count(1);
        int bids = sale.count(2);
        int[] numbers = new int[9 + fields * 6 + bidders * 6 + bids * 8];
        int next = 0;
        for (int what = 0; what <= 8; what++) {
            numbers[next++] = sale.count(what);
        }
        for (int field = 0; field < fields; field++) {
            for (int what = 0; what <= 5; what++) {
                numbers[next++] = what <= 2 ? sale.land(field, what) : sale.alone(field, what - 3);
            }
        }
        for (int bidder = 0; bidder < bidders; bidder++) {
            for (int what = 0; what <= 5; what++) {
                numbers[next++] = sale.about(bidder, what);
            }
        }
        for (int bid = 0; bid < bids; bid++) {
            for (int what = 0; what <= 7; what++) {
                numbers[next++] = sale.told(bid, what);
            }
        }
        return numbers;
    }
}
