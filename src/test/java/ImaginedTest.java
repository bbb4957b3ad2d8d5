/** Promises 15 to 19: what would be. */
public final class ImaginedTest {
    private static final Class<IndexOutOfBoundsException> INDEX = IndexOutOfBoundsException.class;
    private static final Class<IllegalArgumentException> ARGUMENT = IllegalArgumentException.class;

    public static void main(String[] args) {
        would();
        wouldOfBidsThatDoNotCount();
        wouldIsRefused();
        least();
        leastBreaksTies();
        leastAtTheEdges();
        rival();
        rivalOfOut();
        mean();
        digest();
        digestOfUsual();
        Check.end();
    }

    private static void wouldAll(PastureBids sale, int bid, int price, int... due) {
        long before = sale.digest();
        for (int what = 0; what < due.length; what++) {
            Check.same("would(" + bid + ", " + price + ", " + what + ")", due[what], sale.would(bid, price, what));
        }
        Check.same("would() changed nothing", before, sale.digest());
    }

    private static void would() {
        PastureBids sale = Sales.usual();
        sale.setWorth(2, 100);
        wouldAll(sale, 2, 91, 1, 90, 10, 61);
        wouldAll(sale, 2, 90, 0, 0, 0, 60);
        wouldAll(sale, 2, 999, 1, 90, 10, 969);
        wouldAll(sale, 2, 0, 0, 0, 0, 60);
        // The bidder 0 wins with the bid 0, whatever the bid 3 is.
        wouldAll(sale, 3, 5, 0, 40, 10, 60);
        wouldAll(sale, 3, 100, 1, 5, -1, 145);
    }

    private static void wouldOfBidsThatDoNotCount() {
        PastureBids sale = Sales.usual();
        sale.withdraw(2);
        wouldAll(sale, 2, 999, 0, 0, 0, 60);
        sale.setIn(0, false);
        wouldAll(sale, 0, 999, 0, 0, 0, 20);
    }

    private static void wouldIsRefused() {
        PastureBids sale = Sales.usual();
        for (int bid : new int[] {-1, 4, 12, Integer.MIN_VALUE, Integer.MAX_VALUE}) {
            Check.refuses(sale, INDEX, "would(" + bid + ", 1, 0)", () -> sale.would(bid, 1, 0));
            Check.refuses(sale, INDEX, "would(" + bid + ", -1, 0)", () -> sale.would(bid, -1, 0));
            Check.refuses(sale, INDEX, "least(" + bid + ")", () -> sale.least(bid));
        }
        for (int what : new int[] {-1, 4, Integer.MIN_VALUE, Integer.MAX_VALUE}) {
            Check.refuses(sale, INDEX, "would(0, 1, " + what + ")", () -> sale.would(0, 1, what));
            Check.refuses(sale, INDEX, "would(0, 1000, " + what + ")", () -> sale.would(0, 1000, what));
        }
        for (int price : new int[] {-1, 1000, Integer.MIN_VALUE, Integer.MAX_VALUE}) {
            Check.refuses(sale, ARGUMENT, "would(0, " + price + ", 0)", () -> sale.would(0, price, 0));
        }
    }

    private static void leastOf(PastureBids sale, int bid, int due) {
        long before = sale.digest();
        Check.same("least(" + bid + ")", due, sale.least(bid));
        Check.same("least() changed nothing", before, sale.digest());
    }

    private static void least() {
        PastureBids sale = Sales.usual();
        leastOf(sale, 0, 40);
        leastOf(sale, 1, 30);
        leastOf(sale, 2, 91);
        // {2, 3} must bring more than the 60 of {0, 1}, whose number is less.
        leastOf(sale, 3, 16);
        sale.withdraw(0);
        leastOf(sale, 0, -1);
        leastOf(sale, 3, 5);
        sale.setIn(1, false);
        leastOf(sale, 1, -1);
        leastOf(sale, 2, 30);
    }

    private static void leastBreaksTies() {
        PastureBids sale = Sales.with(3, 0);
        sale.bid(0, 1, 7);
        sale.bid(1, 1, 8);
        sale.bid(2, 1, 9);
        // With as much as another one the smaller number wins.
        leastOf(sale, 0, 9);
        leastOf(sale, 1, 9);
        leastOf(sale, 2, 9);
        sale.setPrice(0, 9);
        leastOf(sale, 1, 10);
        leastOf(sale, 2, 10);
    }

    private static void leastAtTheEdges() {
        PastureBids sale = Sales.with(3, 0, 99);
        sale.bid(0, 1, 999);
        sale.bid(1, 1, 5);
        leastOf(sale, 0, 5);
        leastOf(sale, 1, -1);
        sale.setPrice(0, 998);
        leastOf(sale, 1, 999);
        sale.bid(2, 2, 3);
        leastOf(sale, 2, 99);
        sale.withdraw(1);
        leastOf(sale, 0, 0);
    }

    private static void rival() {
        PastureBids sale = Sales.usual();
        long before = sale.digest();
        // Without 0 the bidder 2 pays 30 + 20, without 1 this one pays 30 + 40,
        // and without 2 the bidders 0 and 1 pay their reserves, 30.
        Check.same("rival()", 1, sale.rival());
        Check.same("rival() changed nothing", before, sale.digest());
        PastureBids empty = Sales.with(3, 4);
        Check.same("rival() of several", 0, empty.rival());
        empty.bid(0, 1, 20);
        empty.bid(1, 1, 15);
        empty.bid(2, 1, 15);
        Check.same("rival() of three for one field", 0, empty.rival());
        empty.bid(2, 1, 16);
        Check.same("rival() of the one who bids least", 1, empty.rival());
    }

    private static void rivalOfOut() {
        PastureBids sale = Sales.with(4, 0);
        sale.bid(0, 1, 30);
        sale.bid(1, 1, 20);
        sale.bid(2, 1, 90);
        // Without 0 the others pay 20, without 1 they pay 30, without 2 it is 20.
        Check.same("rival() of all in", 1, sale.rival());
        sale.setIn(3, false);
        Check.same("rival() with one out who bids nothing", 1, sale.rival());
        sale.setIn(1, false);
        // Without 1 or 3, who are out, the bidder 2 pays 30 all the same.
        Check.same("rival() with those out the best", 1, sale.rival());
        sale.setIn(1, true);
        sale.setIn(0, false);
        Check.same("rival() with the first out", 0, sale.rival());
    }

    private static void mean() {
        PastureBids sale = Sales.usual();
        Check.same("mean()", 35.0, sale.mean());
        sale.setReserve(1, 21);
        sale.setPrice(2, 82);
        // Gains 40, 19 and 51: 10 + 51 - 19 and 21 + 51 - 40 are paid.
        Check.same("mean() of 42 and 32", 37.0, sale.mean());
        sale.setPrice(0, 51);
        Check.same("mean() of 42 and 31", 36.5, sale.mean());
        sale.setIn(0, false);
        sale.setIn(1, false);
        Check.same("mean() of one", 31.0, sale.mean());
        sale.setIn(2, false);
        Check.same("mean() of none", 0.0, sale.mean());
        PastureBids three = Sales.with(3, 0, 0, 1);
        three.bid(0, 1, 5);
        three.bid(1, 2, 5);
        three.bid(2, 4, 5);
        Check.same("mean() of a third", 1.0 / 3.0, three.mean());
    }

    private static void digest() {
        long due = 1619;
        for (int what = 0; what <= 8; what++) {
            due *= 31;
        }
        Check.same("digest() of a new object", due, new PastureBids().digest());
    }

    private static void digestOfUsual() {
        PastureBids sale = Sales.usual();
        sale.setWorth(1, 77);
        int[] due = {
            3, 3, 4, 60, 2, 2, 70, 57, 90,
            10, 0, 2, 0, 0, 10, 20, 1, 2, 1, 1, 20, 5, -1, 0, -1, -1, -1,
            1, 2, 0, 40, 10, 50, 1, 1, 1, 30, 47, 50, 1, 1, -1, 0, 0, 60,
            0, 1, 50, 50, 0, 40, 1, 1, 1, 2, 40, 77, 0, 20, 1, 1,
            2, 3, 80, 80, 0, 50, 1, 0, 0, 4, 4, 4, 0, -1, 0, 0};
        long digest = 1619;
        for (int number : due) {
            digest = digest * 31 + number;
        }
        Check.same("digest()", digest, sale.digest());
    }
}
