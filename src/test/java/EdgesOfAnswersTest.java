import java.util.function.Supplier;

/** Promises 10 to 14: a test of its own for each sentence that names a boundary case, told in the test's name. */
public final class EdgesOfAnswersTest {
    private static final Class<IndexOutOfBoundsException> INDEX = IndexOutOfBoundsException.class;
    private static final int[] NO_FIELDS = {-1, 3, 8, 256, Integer.MIN_VALUE, Integer.MAX_VALUE};
    private static final int[] NO_BIDDERS = {-1, 3, 5, 256, Integer.MIN_VALUE, Integer.MAX_VALUE};
    private static final int[] NO_BIDS = {-1, 4, 12, 256, Integer.MIN_VALUE, Integer.MAX_VALUE};
    private static final int[] NO_WHATS = {-1, 9, 256, Integer.MIN_VALUE, Integer.MAX_VALUE};

    public static void main(String[] args) {
        told();
        counting();
        winning();
        winningOfEquals();
        aboutWhoWins();
        aboutWhatIsPaid();
        aboutTheSaleWithout();
        aboutIsRefused();
        land();
        count();
        countAtTheEnds();
        alone();
        aloneOfEquals();
        aloneIsRefused();
        Check.end();
    }

    private static void winners(PastureBids sale, int... due) {
        int next = 0;
        for (int bid = 0; bid < sale.count(2); bid++) {
            boolean wins = next < due.length && due[next] == bid;
            next += wins ? 1 : 0;
            Check.same("told(" + bid + ", 7)", wins ? 1 : 0, sale.told(bid, 7));
        }
    }

    private static void told() {
        Check.test("promise 10: IndexOutOfBoundsException if there is no such bid", () -> {
            for (int bid : NO_BIDS) {
                for (int what = 0; what <= 7; what++) {
                    int asked = what;
                    Twins.refuse(Sales::usual, INDEX, "told(" + bid + ", " + what + ")", sale -> sale.told(bid, asked));
                }
            }
            Twins.refuse(Sales::full, INDEX, "told(12, 0)", sale -> sale.told(12, 0));
        });
        Check.test("promise 10: IndexOutOfBoundsException if what is not 0 to 7", () -> {
            for (int what : NO_WHATS) {
                Twins.refuse(Sales::usual, INDEX, "told(0, " + what + ")", sale -> sale.told(0, what));
            }
            Twins.refuse(Sales::usual, INDEX, "told(0, 8)", sale -> sale.told(0, 8));
        });
        Check.test("promise 10: of one that is withdrawn all is told, as it is", () -> {
            PastureBids sale = Sales.usual();
            sale.withdraw(0);
            int[] due = {0, 1, 50, 50, 1, 40, 0, 0};
            for (int what = 0; what < due.length; what++) {
                Check.same("told(0, " + what + ")", due[what], sale.told(0, what));
            }
        });
        Check.test("promise 10: the gain is less than 0, if the reserves are more, down to -792", () -> {
            PastureBids sale = Sales.with(1, 99, 99, 99, 99, 99, 99, 99, 99);
            sale.bid(0, 255, 0);
            sale.bid(0, 255, 791);
            sale.bid(0, 255, 999);
            Check.same("the least", -792, sale.told(0, 5));
            Check.same("one less than the reserves", -1, sale.told(1, 5));
            Check.same("the greatest with these", 207, sale.told(2, 5));
        });
        Check.test("promise 10: the gain is as much as the price without reserves, up to 999", () -> {
            PastureBids sale = Sales.with(1, 0, 99);
            sale.bid(0, 1, 999);
            sale.bid(0, 1, 0);
            Check.same("the greatest", 999, sale.told(0, 5));
            Check.same("of a price of 0", 0, sale.told(1, 5));
        });
    }

    private static void counting() {
        Check.test("promise 10, Terms: a bid counts, if its gain is 0 or more", () -> {
            PastureBids sale = Sales.with(1, 10, 20);
            sale.bid(0, 3, 30);
            sale.bid(0, 3, 29);
            Check.same("at 0", 1, sale.told(0, 6));
            Check.same("at -1", 0, sale.told(1, 6));
        });
        Check.test("promise 10, Terms: a bid counts, if it is not withdrawn", () -> {
            PastureBids sale = Sales.usual();
            sale.withdraw(1);
            Check.same("one that is", 0, sale.told(1, 6));
            Check.same("one that is not", 1, sale.told(0, 6));
        });
        Check.test("promise 10, Terms: a bid counts, if its bidder is in", () -> {
            PastureBids sale = Sales.usual();
            sale.setIn(1, false);
            Check.same("of one who is out", 0, sale.told(1, 6));
            Check.same("of one who is in", 1, sale.told(0, 6));
            sale.setIn(1, true);
            Check.same("of one who is in again", 1, sale.told(1, 6));
        });
    }

    private static void winning() {
        Check.test("promise 10, Terms: no field is in two of the bundles, not a single one", () -> {
            PastureBids sale = Sales.fullWithoutBids();
            sale.bid(0, 15, 400);
            sale.bid(1, 248, 800);
            winners(sale, 1);
            sale.bid(2, 7, 200);
            winners(sale, 1, 2);
        });
        Check.test("promise 10, Terms: no two are of one bidder", () -> {
            PastureBids sale = Sales.with(2, 0, 0);
            sale.bid(1, 1, 40);
            sale.bid(1, 2, 41);
            winners(sale, 1);
        });
        Check.test("promise 10, Terms: the set of none wins, if no bid counts", () -> {
            PastureBids sale = Sales.with(1, 10);
            sale.bid(0, 1, 9);
            winners(sale);
            Check.same("sum of gains", 0, sale.count(3));
        });
        Check.test("promise 10, Terms: the greatest sum of gains wins, if by 1 alone, whatever the prices", () -> {
            PastureBids sale = Sales.with(3, 0, 99);
            sale.bid(0, 3, 120);
            sale.bid(1, 1, 10);
            sale.bid(2, 2, 109);
            winners(sale, 0);
            sale.setPrice(1, 11);
            winners(sale, 1, 2);
        });
        Check.test("promise 10, Terms: the greatest sum wins before the most bids", () -> {
            PastureBids sale = Sales.with(3, 0, 0);
            sale.bid(0, 1, 10);
            sale.bid(1, 2, 10);
            sale.bid(2, 3, 21);
            winners(sale, 2);
        });
    }

    private static void winningOfEquals() {
        Check.test("promise 10, Terms: of several the one with the most bids", () -> {
            PastureBids sale = Sales.with(5, 0, 0, 0);
            sale.bid(0, 7, 30);
            winners(sale, 0);
            sale.bid(1, 3, 15);
            sale.bid(2, 4, 15);
            winners(sale, 1, 2);
            sale.bid(3, 1, 8);
            sale.bid(4, 2, 7);
            winners(sale, 2, 3, 4);
        });
        Check.test("promise 10, Terms: a bid with a gain of 0 wins, by the most bids", () -> {
            PastureBids sale = Sales.with(2, 99, 0);
            sale.bid(0, 1, 99);
            winners(sale, 0);
            sale.bid(1, 2, 0);
            winners(sale, 0, 1);
        });
        Check.test("promise 10, Terms: of several still the least number, of one bid each", () -> {
            PastureBids sale = Sales.with(3, 5);
            sale.bid(2, 1, 9);
            sale.bid(1, 1, 9);
            sale.bid(0, 1, 9);
            winners(sale, 0);
            sale.withdraw(0);
            winners(sale, 1);
        });
        Check.test("promise 10, Terms: the number is told by bits, so that the greatest bid decides", () -> {
            PastureBids sale = crossed();
            winners(sale, 1, 2);
            sale.setPrice(11, 13);
            winners(sale, 0, 11);
        });
        Check.test("promise 10, Terms: the most bids go before the least number", () -> {
            PastureBids sale = Sales.with(3, 0, 0);
            sale.bid(0, 3, 10);
            sale.bid(1, 1, 5);
            sale.bid(2, 2, 5);
            winners(sale, 1, 2);
        });
    }

    /** {0, 11} and {1, 2} bring as much with as many bids; the bids 3 to 10 don't count. */
    private static PastureBids crossed() {
        PastureBids sale = Sales.with(5, 1, 1, 1, 1);
        sale.bid(0, 3, 12);
        sale.bid(1, 5, 12);
        sale.bid(2, 10, 12);
        for (int bid = 3; bid <= 10; bid++) {
            sale.bid(4, 1, 0);
        }
        sale.bid(3, 12, 12);
        return sale;
    }

    private static void aboutWhoWins() {
        Check.test("promise 11: 1 if this one is in, else 0, and in at first", () -> {
            PastureBids sale = Sales.with(2);
            sale.setIn(1, false);
            Check.same("about(0, 0)", 1, sale.about(0, 0));
            Check.same("about(1, 0)", 0, sale.about(1, 0));
        });
        Check.test("promise 11: bids that are not withdrawn, from 0 to 12, of one who is out as well", () -> {
            PastureBids sale = Sales.with(2, 50);
            Check.same("without bids", 0, sale.about(1, 1));
            for (int bid = 0; bid < 12; bid++) {
                sale.bid(1, 1, bid);
            }
            sale.setIn(1, false);
            Check.same("with all bids", 12, sale.about(1, 1));
            Check.same("of another", 0, sale.about(0, 1));
            for (int bid = 0; bid < 12; bid++) {
                sale.withdraw(bid);
                Check.same("after a withdrawal", 11 - bid, sale.about(1, 1));
            }
        });
        Check.test("promise 11: the bid that wins, -1 without one", () -> {
            PastureBids sale = Sales.usual();
            sale.join();
            Check.same("of a winner, the number 0", 0, sale.about(0, 2));
            Check.same("of one who loses", -1, sale.about(2, 2));
            Check.same("of one without bids", -1, sale.about(3, 2));
            sale.setIn(0, false);
            Check.same("of one who is out", -1, sale.about(0, 2));
        });
        Check.test("promise 11: what this one pays, 0 for those who do not win", () -> {
            PastureBids sale = Sales.usual();
            sale.join();
            Check.same("of one who loses", 0, sale.about(2, 3));
            Check.same("of one without bids", 0, sale.about(3, 3));
            sale.setIn(0, false);
            Check.same("of one who won and is out", 0, sale.about(0, 3));
        });
        Check.test("promise 11, Terms: profit 0 for those who do not win", () -> {
            PastureBids sale = Sales.usual();
            sale.setWorth(2, 999);
            Check.same("of one who loses", 0, sale.about(2, 4));
            sale.withdraw(1);
            sale.setPrice(2, 0);
            Check.same("of one whose bid is withdrawn", 0, sale.about(1, 4));
            Check.same("of one who bids too little", 0, sale.about(2, 4));
        });
    }

    private static void aboutWhatIsPaid() {
        Check.test("promise 11, Terms: a winner without others pays the reserves alone, from 0 to 792", () -> {
            PastureBids free = Sales.with(1, 0);
            free.bid(0, 1, 999);
            Check.same("without a reserve", 0, free.about(0, 3));
            PastureBids dear = Sales.with(1, 99, 99, 99, 99, 99, 99, 99, 99);
            dear.bid(0, 255, 999);
            Check.same("with all of the greatest", 792, dear.about(0, 3));
        });
        Check.test("promise 11, Terms: a winner pays as much as the price at most, when another bids as much", () -> {
            PastureBids sale = Sales.with(2, 99);
            sale.bid(0, 1, 999);
            sale.bid(1, 1, 999);
            Check.same("what the first pays", 999, sale.about(0, 3));
        });
        Check.test("promise 11, Terms: without this bidder no bid of this one is in the sale", () -> {
            PastureBids sale = Sales.with(2, 10);
            sale.bid(0, 1, 50);
            sale.bid(0, 1, 45);
            sale.bid(1, 1, 30);
            Check.same("pays what the other bids", 30, sale.about(0, 3));
            sale.withdraw(2);
            Check.same("pays the reserve", 10, sale.about(0, 3));
        });
        Check.test("promise 11, Terms: the profit is less than 0, if the worth is less than what is paid", () -> {
            PastureBids sale = Sales.with(2, 99);
            sale.bid(0, 1, 999);
            sale.bid(1, 1, 999);
            Check.same("at the same", 0, sale.about(0, 4));
            sale.setWorth(0, 0);
            Check.same("the least profit", -999, sale.about(0, 4));
        });
        Check.test("promise 11, Terms: the profit is the worth, if nothing is paid", () -> {
            PastureBids sale = Sales.with(1, 0);
            sale.bid(0, 1, 0);
            sale.setWorth(0, 999);
            Check.same("the greatest profit", 999, sale.about(0, 4));
        });
    }

    private static void aboutTheSaleWithout() {
        Check.test("promise 11: the sum of gains of a sale without the only one is 0", () -> {
            PastureBids sale = Sales.with(1, 3);
            sale.bid(0, 1, 500);
            Check.same("about(0, 5)", 0, sale.about(0, 5));
        });
        Check.test("promise 11: the sum of gains without one who is out is that of the sale", () -> {
            PastureBids sale = Sales.usual();
            sale.setIn(0, false);
            Check.same("about(0, 5)", 50, sale.about(0, 5));
            Check.same("count(3)", 50, sale.count(3));
        });
        Check.test("promise 11: the sum of gains without one who has just joined is that of the sale", () -> {
            PastureBids sale = Sales.usual();
            sale.join();
            Check.same("about(3, 5)", 60, sale.about(3, 5));
        });
        Check.test("promise 11: without one, those who are out stay out", () -> {
            PastureBids sale = Sales.usual();
            sale.setIn(2, false);
            Check.same("about(0, 5)", 20, sale.about(0, 5));
        });
    }

    private static void aboutIsRefused() {
        Check.test("promise 11: IndexOutOfBoundsException if there is no such bidder", () -> {
            for (int bidder : NO_BIDDERS) {
                for (int what = 0; what <= 5; what++) {
                    int asked = what;
                    Twins.refuse(Sales::usual, INDEX, "about(" + bidder + ", " + what + ")",
                            sale -> sale.about(bidder, asked));
                }
            }
            Twins.refuse(Sales::full, INDEX, "about(5, 0)", sale -> sale.about(5, 0));
        });
        Check.test("promise 11: IndexOutOfBoundsException if what is not 0 to 5", () -> {
            for (int what : NO_WHATS) {
                Twins.refuse(Sales::usual, INDEX, "about(0, " + what + ")", sale -> sale.about(0, what));
            }
            Twins.refuse(Sales::usual, INDEX, "about(0, 6)", sale -> sale.about(0, 6));
        });
    }

    private static void land() {
        Check.test("promise 12: the bidder who gets it, -1 for none", () -> {
            PastureBids sale = Sales.usual();
            Check.same("the bidder 0", 0, sale.land(0, 1));
            Check.same("of a field with a bid below its reserve", -1, sale.land(2, 1));
            Check.same("of a field without bids", -1, Sales.with(1, 0).land(0, 1));
        });
        Check.test("promise 12: one bundle can bring all the fields there are", () -> {
            PastureBids sale = Sales.fullWithoutBids();
            sale.bid(4, 255, 308);
            for (int field = 0; field < 8; field++) {
                Check.same("land(" + field + ", 1)", 4, sale.land(field, 1));
            }
        });
        Check.test("promise 12: bids that count and have it, from 0 to 12", () -> {
            PastureBids sale = Sales.with(2, 10, 0);
            Check.same("without bids", 0, sale.land(0, 2));
            for (int bid = 0; bid < 12; bid++) {
                sale.bid(bid % 2, 1 + bid % 2 * 2, 10 + bid);
                Check.same("after a bid", bid + 1, sale.land(0, 2));
            }
            Check.same("bids that have another too", 6, sale.land(1, 2));
        });
        Check.test("promise 12: a bid at a gain of 0 counts there, at -1 or withdrawn or out it does not", () -> {
            PastureBids sale = Sales.with(3, 10);
            sale.bid(0, 1, 10);
            sale.bid(0, 1, 9);
            sale.bid(1, 1, 20);
            sale.bid(2, 1, 20);
            sale.withdraw(2);
            sale.setIn(2, false);
            Check.same("land(0, 2)", 1, sale.land(0, 2));
        });
        Check.test("promise 12: IndexOutOfBoundsException if there is no such field", () -> {
            for (int field : NO_FIELDS) {
                for (int what = 0; what <= 2; what++) {
                    int asked = what;
                    Twins.refuse(Sales::usual, INDEX, "land(" + field + ", " + what + ")",
                            sale -> sale.land(field, asked));
                }
            }
            Twins.refuse(Sales::full, INDEX, "land(8, 0)", sale -> sale.land(8, 0));
        });
        Check.test("promise 12: IndexOutOfBoundsException if what is not 0 to 2", () -> {
            for (int what : NO_WHATS) {
                Twins.refuse(Sales::usual, INDEX, "land(0, " + what + ")", sale -> sale.land(0, what));
            }
            Twins.refuse(Sales::usual, INDEX, "land(0, 3)", sale -> sale.land(0, 3));
        });
    }

    private static void countAll(PastureBids sale, int... due) {
        for (int what = 0; what < due.length; what++) {
            Check.same("count(" + what + ")", due[what], sale.count(what));
        }
    }

    private static void count() {
        Check.test("promise 13: IndexOutOfBoundsException if what is not 0 to 8", () -> {
            for (int what : NO_WHATS) {
                Twins.refuse(Sales::usual, INDEX, "count(" + what + ")", sale -> sale.count(what));
                Twins.refuse(PastureBids::new, INDEX, "count(" + what + ") of none", sale -> sale.count(what));
            }
        });
        Check.test("promise 13: bids that were told in all, those that are withdrawn or out as well", () -> {
            PastureBids sale = Sales.usual();
            sale.withdraw(0);
            sale.setIn(1, false);
            Check.same("count(2)", 4, sale.count(2));
        });
        Check.test("promise 13: with fields, bidders and bids, and none that counts, all that is added is 0", () -> {
            PastureBids sale = Sales.with(2, 10);
            sale.bid(0, 1, 9);
            sale.setWorth(0, 999);
            countAll(sale, 1, 2, 1, 0, 0, 0, 0, 0, 0);
        });
    }

    private static void countAtTheEnds() {
        Check.test("promise 13: as much as there can be", () -> {
            PastureBids sale = Sales.with(5, 99, 99, 99, 99, 99, 99, 99, 99);
            int[] bundles = {3, 12, 48, 64, 128};
            for (int bid = 0; bid < 12; bid++) {
                sale.bid(bid % 5, bundles[bid % 5], 999);
            }
            // Five win, for 8 fields, and pay their reserves, as each competes with bids of one's own alone.
            countAll(sale, 8, 5, 12, 4995 - 792, 5, 8, 792, 4995 - 792, 4995);
        });
        Check.test("promise 13: the profits are added, those less than 0 as well", () -> {
            PastureBids sale = Sales.with(2, 10, 20);
            sale.bid(0, 1, 50);
            sale.bid(1, 2, 50);
            sale.setWorth(0, 0);
            sale.setWorth(1, 25);
            // The profits are 0 - 10 and 25 - 20.
            countAll(sale, 2, 2, 2, 70, 2, 2, 30, -5, 100);
        });
    }

    private static void aloneAll(PastureBids sale, int field, int... due) {
        for (int what = 0; what < due.length; what++) {
            Check.same("alone(" + field + ", " + what + ")", due[what], sale.alone(field, what));
        }
    }

    private static void alone() {
        Check.test("promise 14: -1 for each of these, if no bid competes", () -> {
            PastureBids sale = Sales.with(2, 10, 0);
            aloneAll(sale, 0, -1, -1, -1);
            sale.bid(0, 3, 999);
            aloneAll(sale, 0, -1, -1, -1);
            aloneAll(sale, 1, -1, -1, -1);
        });
        Check.test("promise 14, Terms: a bid that does not count does not compete", () -> {
            PastureBids sale = Sales.with(3, 10);
            sale.bid(0, 1, 9);
            sale.bid(1, 1, 50);
            sale.bid(2, 1, 60);
            sale.withdraw(1);
            sale.setIn(2, false);
            aloneAll(sale, 0, -1, -1, -1);
        });
        Check.test("promise 14, Terms: a bid at the reserve competes, wins and pays it", () -> {
            PastureBids sale = Sales.with(1, 99);
            sale.bid(0, 1, 99);
            aloneAll(sale, 0, 0, 0, 99);
        });
        Check.test("promise 14, Terms: at least the reserve is paid, without others", () -> {
            PastureBids sale = Sales.with(2, 10, 0);
            sale.bid(1, 1, 999);
            sale.bid(0, 1, 9);
            sale.bid(0, 3, 500);
            aloneAll(sale, 0, 0, 1, 10);
            sale.bid(1, 2, 0);
            aloneAll(sale, 1, 3, 1, 0);
        });
        Check.test("promise 14, Terms: what is paid is of other bidders, not of other bids of one's own", () -> {
            PastureBids sale = Sales.with(2, 10);
            sale.bid(0, 1, 40);
            sale.bid(0, 1, 39);
            aloneAll(sale, 0, 0, 0, 10);
            sale.bid(1, 1, 20);
            aloneAll(sale, 0, 0, 0, 20);
        });
        Check.test("promise 14, Terms: of the last of 8 fields", () -> {
            PastureBids sale = Sales.fullWithoutBids();
            sale.bid(4, 128, 90);
            sale.bid(3, 128, 80);
            aloneAll(sale, 7, 0, 4, 80);
            aloneAll(sale, 6, -1, -1, -1);
        });
    }

    private static void aloneOfEquals() {
        Check.test("promise 14, Terms: of several that with the smallest number, which pays as much", () -> {
            PastureBids sale = Sales.with(3, 10);
            sale.bid(2, 1, 30);
            sale.bid(0, 1, 30);
            sale.bid(1, 1, 30);
            aloneAll(sale, 0, 0, 2, 30);
        });
        Check.test("promise 14, Terms: of several bids of one bidder the smallest number, which pays the reserve", () -> {
            PastureBids sale = Sales.with(2, 10);
            sale.bid(1, 1, 29);
            sale.bid(1, 1, 30);
            sale.bid(1, 1, 30);
            aloneAll(sale, 0, 1, 1, 10);
        });
        Check.test("promise 14, Terms: sold one by one, whatever bids win together", () -> {
            PastureBids sale = Sales.with(1, 0, 0);
            sale.bid(0, 1, 5);
            sale.bid(0, 2, 6);
            aloneAll(sale, 0, 0, 0, 0);
            aloneAll(sale, 1, 1, 0, 0);
            winners(sale, 1);
        });
    }

    private static void aloneIsRefused() {
        Supplier<PastureBids> noneCompetes = () -> Sales.with(1, 1, 2, 3);
        Check.test("promise 14: IndexOutOfBoundsException if there is no such field", () -> {
            for (int field : NO_FIELDS) {
                for (int what = 0; what <= 2; what++) {
                    int asked = what;
                    Twins.refuse(Sales::usual, INDEX, "alone(" + field + ", " + what + ")",
                            sale -> sale.alone(field, asked));
                }
                Twins.refuse(noneCompetes, INDEX, "alone(" + field + ", 0)", sale -> sale.alone(field, 0));
            }
            Twins.refuse(Sales::full, INDEX, "alone(8, 0)", sale -> sale.alone(8, 0));
        });
        Check.test("promise 14: IndexOutOfBoundsException if what is not 0 to 2, if no bid competes as well", () -> {
            for (int what : new int[] {-1, 3, 256, Integer.MIN_VALUE, Integer.MAX_VALUE}) {
                Twins.refuse(Sales::usual, INDEX, "alone(0, " + what + ")", sale -> sale.alone(0, what));
                Twins.refuse(noneCompetes, INDEX, "alone(0, " + what + ")", sale -> sale.alone(0, what));
            }
        });
    }
}
