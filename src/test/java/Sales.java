/** Sales that several tests start from. */
final class Sales {
    private Sales() {
    }

    static PastureBids with(int bidders, int... reserves) {
        PastureBids sale = new PastureBids();
        for (int reserve : reserves) {
            sale.field(reserve);
        }
        for (int bidder = 0; bidder < bidders; bidder++) {
            sale.join();
        }
        return sale;
    }

    /**
     * Fields with reserves 10, 20 and 5; the bids 0 (of 0, for field 0, 50),
     * 1 (of 1, for field 1, 40), 2 (of 2, for fields 0 and 1, 80) and 3 (of 0,
     * for field 2, 4: below the reserve). Gains 40, 20, 50, -1: 0 and 1 win
     * with 60; without the bidder 0 or 1 the bid 2 wins with 50.
     */
    static PastureBids usual() {
        PastureBids sale = with(3, 10, 20, 5);
        sale.bid(0, 1, 50);
        sale.bid(1, 2, 40);
        sale.bid(2, 3, 80);
        sale.bid(0, 4, 4);
        return sale;
    }

    /** As many fields and bidders as there can be: the reserves are 0, 11, 22 and so on, 77 the last. */
    static PastureBids fullWithoutBids() {
        return with(5, 0, 11, 22, 33, 44, 55, 66, 77);
    }

    /** As much as there can be: 8 fields, 5 bidders and 12 bids, each for two neighbours or for one field. */
    static PastureBids full() {
        PastureBids sale = fullWithoutBids();
        for (int bid = 0; bid < 12; bid++) {
            int fields = bid < 7 ? 3 << bid : 1 << bid - 4;
            sale.bid(bid % 5, fields, 150 + bid * 7);
        }
        return sale;
    }
}
