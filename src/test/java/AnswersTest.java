/** Promises 10 to 14: what there is. */
public final class AnswersTest {
    private static final Class<IndexOutOfBoundsException> INDEX = IndexOutOfBoundsException.class;

    public static void main(String[] args) {
        told();
        about();
        aboutThoseWhoAreOut();
        land();
        count();
        mostBidsOfSeveral();
        leastNumberOfSeveral();
        oneBidOfEach();
        alone();
        aloneWithEqualPrices();
        wrongNumbers();
        Check.end();
    }

    private static void toldAll(PastureBids sale, int bid, int... due) {
        for (int what = 0; what < due.length; what++) {
            Check.same("told(" + bid + ", " + what + ")", due[what], sale.told(bid, what));
        }
    }

    private static void aboutAll(PastureBids sale, int bidder, int... due) {
        for (int what = 0; what < due.length; what++) {
            Check.same("about(" + bidder + ", " + what + ")", due[what], sale.about(bidder, what));
        }
    }

    private static void told() {
        PastureBids sale = Sales.usual();
        sale.setWorth(1, 77);
        toldAll(sale, 0, 0, 1, 50, 50, 0, 40, 1, 1);
        toldAll(sale, 1, 1, 2, 40, 77, 0, 20, 1, 1);
        toldAll(sale, 2, 2, 3, 80, 80, 0, 50, 1, 0);
        toldAll(sale, 3, 0, 4, 4, 4, 0, -1, 0, 0);
        sale.withdraw(1);
        toldAll(sale, 1, 1, 2, 40, 77, 1, 20, 0, 0);
    }

    private static void about() {
        PastureBids sale = Sales.usual();
        sale.setWorth(1, 77);
        // The bidder 0 pays 10 + 50 - 20, the bidder 1 pays 20 + 50 - 40.
        aboutAll(sale, 0, 1, 2, 0, 40, 10, 50);
        aboutAll(sale, 1, 1, 1, 1, 30, 47, 50);
        aboutAll(sale, 2, 1, 1, -1, 0, 0, 60);
    }

    private static void aboutThoseWhoAreOut() {
        PastureBids sale = Sales.usual();
        sale.setIn(2, false);
        aboutAll(sale, 0, 1, 2, 0, 10, 40, 20);
        aboutAll(sale, 1, 1, 1, 1, 20, 20, 40);
        aboutAll(sale, 2, 0, 1, -1, 0, 0, 60);
    }

    private static void land() {
        PastureBids sale = Sales.usual();
        int[][] due = {{10, 0, 2}, {20, 1, 2}, {5, -1, 0}};
        for (int field = 0; field < due.length; field++) {
            for (int what = 0; what < 3; what++) {
                Check.same("land(" + field + ", " + what + ")", due[field][what], sale.land(field, what));
            }
        }
        sale.setIn(0, false);
        Check.same("who gets a field in a bundle", 2, sale.land(1, 1));
        Check.same("bids that count and have it", 1, sale.land(0, 2));
        sale.withdraw(2);
        Check.same("who gets a field that nobody bids for", -1, sale.land(0, 1));
        Check.same("bids that count for none", 0, sale.land(0, 2));
    }

    private static void count() {
        PastureBids sale = Sales.usual();
        sale.setWorth(1, 77);
        int[] due = {3, 3, 4, 60, 2, 2, 70, 57, 90};
        for (int what = 0; what < due.length; what++) {
            Check.same("count(" + what + ")", due[what], sale.count(what));
        }
        sale.setPrice(2, 100);
        int[] dueOfBundle = {3, 3, 4, 70, 1, 2, 90, -10, 100};
        for (int what = 0; what < dueOfBundle.length; what++) {
            Check.same("count(" + what + ") of a bundle", dueOfBundle[what], sale.count(what));
        }
    }

    private static void mostBidsOfSeveral() {
        PastureBids sale = Sales.with(3, 5, 5);
        sale.bid(0, 3, 40);
        sale.bid(1, 1, 20);
        sale.bid(2, 2, 20);
        Check.same("one bid with as much as two wins", 0, sale.told(0, 7));
        Check.same("bids that win", 2, sale.count(4));
        PastureBids nothing = Sales.with(1, 5);
        nothing.bid(0, 1, 5);
        Check.same("a bid with a gain of 0 wins", 1, nothing.told(0, 7));
        Check.same("pays the reserve", 5, nothing.about(0, 3));
    }

    private static void leastNumberOfSeveral() {
        PastureBids sale = Sales.with(4, 0, 0);
        sale.bid(0, 1, 10);
        sale.bid(1, 2, 10);
        sale.bid(2, 1, 10);
        sale.bid(3, 2, 10);
        // {0, 1} is 3, {0, 3} is 9, {1, 2} is 6, {2, 3} is 12.
        Check.same("the first for the field 0", 1, sale.told(0, 7));
        Check.same("the first for the field 1", 1, sale.told(1, 7));
        sale.setPrice(1, 9);
        Check.same("the last for the field 1, at a higher price", 1, sale.told(3, 7));
        // By bits {1, 2} is 6 and {0, 3} is 9: the highest number decides.
        PastureBids crossed = Sales.with(4, 0, 0, 0, 0);
        crossed.bid(0, 3, 10);
        crossed.bid(1, 5, 10);
        crossed.bid(2, 10, 10);
        crossed.bid(3, 12, 10);
        Check.same("the bid 0 of {0, 3} wins", 0, crossed.told(0, 7));
        Check.same("the bid 1 of {1, 2} wins", 1, crossed.told(1, 7));
        Check.same("the bid 2 of {1, 2} wins", 1, crossed.told(2, 7));
        Check.same("the bid 3 of {0, 3} wins", 0, crossed.told(3, 7));
    }

    private static void oneBidOfEach() {
        PastureBids sale = Sales.with(2, 0, 0);
        sale.bid(0, 1, 10);
        sale.bid(0, 2, 20);
        Check.same("bids that win of one bidder", 1, sale.count(4));
        Check.same("the bid that wins", 1, sale.about(0, 2));
        sale.bid(1, 2, 15);
        Check.same("sum of gains with another bidder", 25, sale.count(3));
        Check.same("the bid that wins then", 0, sale.about(0, 2));
        Check.same("what the bidder 0 pays", 0, sale.about(0, 3));
        Check.same("what the bidder 1 pays", 10, sale.about(1, 3));
    }

    private static void aloneAll(PastureBids sale, int field, int... due) {
        for (int what = 0; what < due.length; what++) {
            Check.same("alone(" + field + ", " + what + ")", due[what], sale.alone(field, what));
        }
    }

    private static void alone() {
        PastureBids sale = Sales.with(3, 10, 0);
        aloneAll(sale, 0, -1, -1, -1);
        sale.bid(0, 3, 90);
        aloneAll(sale, 0, -1, -1, -1);
        sale.bid(0, 1, 9);
        aloneAll(sale, 0, -1, -1, -1);
        sale.bid(1, 1, 30);
        aloneAll(sale, 0, 2, 1, 10);
        sale.bid(1, 1, 29);
        aloneAll(sale, 0, 2, 1, 10);
        sale.bid(2, 1, 20);
        aloneAll(sale, 0, 2, 1, 20);
        sale.bid(2, 1, 22);
        aloneAll(sale, 0, 2, 1, 22);
        aloneAll(sale, 1, -1, -1, -1);
        sale.setIn(1, false);
        aloneAll(sale, 0, 5, 2, 10);
        sale.withdraw(5);
        aloneAll(sale, 0, 4, 2, 10);
        sale.setReserve(0, 21);
        aloneAll(sale, 0, -1, -1, -1);
    }

    private static void aloneWithEqualPrices() {
        PastureBids sale = Sales.with(3, 10);
        sale.bid(2, 1, 10);
        sale.bid(1, 1, 30);
        sale.bid(0, 1, 30);
        aloneAll(sale, 0, 1, 1, 30);
    }

    private static void wrongNumbers() {
        PastureBids sale = Sales.usual();
        for (int number : new int[] {-1, 4, 12, Integer.MIN_VALUE, Integer.MAX_VALUE}) {
            Check.refuses(sale, INDEX, "told(" + number + ", 0)", () -> sale.told(number, 0));
            Check.refuses(sale, INDEX, "about(" + number + ", 0)", () -> sale.about(number, 0));
            Check.refuses(sale, INDEX, "land(" + number + ", 0)", () -> sale.land(number, 0));
            Check.refuses(sale, INDEX, "alone(" + number + ", 0)", () -> sale.alone(number, 0));
        }
        Check.refuses(sale, INDEX, "about(3, 0)", () -> sale.about(3, 0));
        Check.refuses(sale, INDEX, "land(3, 0)", () -> sale.land(3, 0));
        Check.refuses(sale, INDEX, "alone(3, 0)", () -> sale.alone(3, 0));
        for (int what : new int[] {-1, 9, Integer.MIN_VALUE, Integer.MAX_VALUE}) {
            Check.refuses(sale, INDEX, "told(0, " + what + ")", () -> sale.told(0, what));
            Check.refuses(sale, INDEX, "about(0, " + what + ")", () -> sale.about(0, what));
            Check.refuses(sale, INDEX, "land(0, " + what + ")", () -> sale.land(0, what));
            Check.refuses(sale, INDEX, "alone(0, " + what + ")", () -> sale.alone(0, what));
            Check.refuses(sale, INDEX, "alone(2, " + what + ")", () -> sale.alone(2, what));
            Check.refuses(sale, INDEX, "count(" + what + ")", () -> sale.count(what));
        }
        Check.refuses(sale, INDEX, "told(0, 8)", () -> sale.told(0, 8));
        Check.refuses(sale, INDEX, "about(0, 6)", () -> sale.about(0, 6));
        Check.refuses(sale, INDEX, "land(0, 3)", () -> sale.land(0, 3));
        Check.refuses(sale, INDEX, "alone(0, 3)", () -> sale.alone(0, 3));
    }
}
