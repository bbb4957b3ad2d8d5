import java.util.Arrays;

/**
 * Sealed bids for pasture: bidders bid for bundles of fields, the bids that
 * bring the most above the reserves win, and who wins pays what the others
 * lose by it, and the reserves.
 *
 * Sets of fields, of bidders and of bids are held as bits: 1 for the number 0,
 * 2 for 1, 4 for 2 and so on, added.
 */
public final class PastureBids {
    private static final int MOST_FIELDS = 8;
    private static final int MOST_BIDDERS = 5;
    private static final int MOST_BIDS = 12;
    private static final int TOP_RESERVE = 99;
    private static final int TOP_AMOUNT = 999;
    /** A power of two, so that the halving steps from here on reach every price. */
    private static final int FIRST_STEP = 512;
    private static final int TOP_WHAT_TOLD = 7;
    private static final int TOP_WHAT_ABOUT = 5;
    private static final int TOP_WHAT_LAND = 2;
    private static final int TOP_WHAT_COUNT = 8;
    private static final int TOP_WHAT_ALONE = 2;
    private static final int TOP_WHAT_WOULD = 3;
    private static final int NOBODY = 0;
    private static final int NONE = -1;
    private static final long DIGEST_START = 1619L;
    private static final long DIGEST_FACTOR = 31L;

    private final int[] reserves = new int[MOST_FIELDS];
    private int fieldCount;

    private final boolean[] ins = new boolean[MOST_BIDDERS];
    private int bidderCount;

    private final int[] owners = new int[MOST_BIDS];
    private final int[] bundles = new int[MOST_BIDS];
    private final int[] prices = new int[MOST_BIDS];
    private final int[] gains = new int[MOST_BIDS];
    private final int[] worths = new int[MOST_BIDS];
    private final boolean[] withdrawn = new boolean[MOST_BIDS];
    private int bidCount;

    /** The sale of what stands now; every change settles it anew. */
    private final Sale sale = new Sale();
    /** A row to settle sales that are only asked about. */
    private final Sale imagined = new Sale();
    /** A row for searches of which only the winners are asked. */
    private final BestSet search = new BestSet();

    /** The set of bids that is the best of those looked at. */
    private static final class BestSet {
        private int gained;
        private int bids;

        /** Starts from the set of no bids, which can always win. */
        private void clear() {
            gained = 0;
            bids = 0;
        }

        private void consider(int otherGained, int otherBids) {
            if (isBeatenBy(otherGained, otherBids)) {
                gained = otherGained;
                bids = otherBids;
            }
        }

        private boolean isBeatenBy(int otherGained, int otherBids) {
            if (otherGained != gained) {
                return otherGained > gained;
            }
            int size = Integer.bitCount(bids);
            int otherSize = Integer.bitCount(otherBids);
            if (otherSize != size) {
                return otherSize > size;
            }
            return otherBids < bids;
        }

        private boolean has(int bid) {
            return (bids & (1 << bid)) != 0;
        }
    }

    /** A sale that is settled: which bids win, and what it means for each bidder. */
    private static final class Sale {
        private final BestSet winners = new BestSet();
        private final int[] winningBids = new int[MOST_BIDDERS];
        private final int[] paid = new int[MOST_BIDDERS];
        private final int[] gainedWithout = new int[MOST_BIDDERS];

        private void clear() {
            winners.clear();
            Arrays.fill(winningBids, NONE);
            Arrays.fill(paid, 0);
            Arrays.fill(gainedWithout, 0);
        }

        private int totalPaid() {
            int total = 0;
            for (int amount : paid) {
                total += amount;
            }
            return total;
        }
    }

    /** Creates a sale without fields and bidders. */
    public PastureBids() {
        settle(sale, NOBODY);
    }

    // ---- fields, bidders, bids

    /** Adds a field and returns its number. */
    public int field(int reserve) throws IllegalArgumentException, IllegalStateException {
        requireReserve(reserve);
        if (fieldCount >= MOST_FIELDS) {
            throw new IllegalStateException("no more fields");
        }
        int added = fieldCount;
        reserves[added] = reserve;
        fieldCount++;
        return added;
    }

    /** Sets the reserve of a field and returns the one before. */
    public int setReserve(int field, int reserve) throws IndexOutOfBoundsException, IllegalArgumentException {
        requireField(field);
        requireReserve(reserve);
        int before = reserves[field];
        reserves[field] = reserve;
        for (int bid = 0; bid < bidCount; bid++) {
            putPrice(bid, prices[bid]);
        }
        settle(sale, NOBODY);
        return before;
    }

    /** Adds a bidder, who is in, and returns the number. */
    public int join() throws IllegalStateException {
        if (bidderCount >= MOST_BIDDERS) {
            throw new IllegalStateException("no more bidders");
        }
        int added = bidderCount;
        ins[added] = true;
        bidderCount++;
        settle(sale, NOBODY);
        return added;
    }

    /** Sets whether a bidder is in and returns whether this one was. */
    public boolean setIn(int bidder, boolean in) throws IndexOutOfBoundsException {
        requireBidder(bidder);
        boolean before = ins[bidder];
        ins[bidder] = in;
        settle(sale, NOBODY);
        return before;
    }

    /** Tells a bid, with the price as its worth, and returns its number. */
    public int bid(int bidder, int fields, int price)
            throws IndexOutOfBoundsException, IllegalArgumentException, IllegalStateException {
        requireBidder(bidder);
        requireBundle(fields);
        requireAmount(price);
        if (bidCount >= MOST_BIDS) {
            throw new IllegalStateException("no more bids");
        }
        int added = bidCount;
        owners[added] = bidder;
        bundles[added] = fields;
        worths[added] = price;
        putPrice(added, price);
        bidCount++;
        settle(sale, NOBODY);
        return added;
    }

    /** Sets the price of a bid and returns the one before. */
    public int setPrice(int bid, int price) throws IndexOutOfBoundsException, IllegalArgumentException {
        requireBid(bid);
        requireAmount(price);
        int before = prices[bid];
        putPrice(bid, price);
        settle(sale, NOBODY);
        return before;
    }

    /** Sets the worth of a bid and returns the one before. */
    public int setWorth(int bid, int worth) throws IndexOutOfBoundsException, IllegalArgumentException {
        requireBid(bid);
        requireAmount(worth);
        int before = worths[bid];
        worths[bid] = worth;
        return before;
    }

    /** Withdraws a bid for good and returns how many are not withdrawn then. */
    public int withdraw(int bid) throws IndexOutOfBoundsException, IllegalStateException {
        requireBid(bid);
        if (withdrawn[bid]) {
            throw new IllegalStateException("withdrawn before");
        }
        withdrawn[bid] = true;
        settle(sale, NOBODY);
        return bidsLeft();
    }

    // ---- what there is

    /** Tells of a bid what is asked. */
    public int told(int bid, int what) throws IndexOutOfBoundsException {
        requireBid(bid);
        requireWhat(what, TOP_WHAT_TOLD);
        switch (what) {
            case 0:
                return owners[bid];
            case 1:
                return bundles[bid];
            case 2:
                return prices[bid];
            case 3:
                return worths[bid];
            case 4:
                return asNumber(withdrawn[bid]);
            case 5:
                return gains[bid];
            case 6:
                return asNumber(counts(bid));
            default:
                return asNumber(sale.winners.has(bid));
        }
    }

    /** Tells of a bidder what is asked. */
    public int about(int bidder, int what) throws IndexOutOfBoundsException {
        requireBidder(bidder);
        requireWhat(what, TOP_WHAT_ABOUT);
        switch (what) {
            case 0:
                return asNumber(ins[bidder]);
            case 1:
                return bidsLeftOf(bidder);
            case 2:
                return sale.winningBids[bidder];
            case 3:
                return sale.paid[bidder];
            case 4:
                return profit(sale, bidder);
            default:
                return sale.gainedWithout[bidder];
        }
    }

    /** Tells of a field what is asked. */
    public int land(int field, int what) throws IndexOutOfBoundsException {
        requireField(field);
        requireWhat(what, TOP_WHAT_LAND);
        switch (what) {
            case 0:
                return reserves[field];
            case 1:
                return ownerOf(winnerOfField(field));
            default:
                return countingBidsWith(field);
        }
    }

    /** Tells of the whole sale what is asked. */
    public int count(int what) throws IndexOutOfBoundsException {
        requireWhat(what, TOP_WHAT_COUNT);
        switch (what) {
            case 0:
                return fieldCount;
            case 1:
                return bidderCount;
            case 2:
                return bidCount;
            case 3:
                return sale.winners.gained;
            case 4:
                return Integer.bitCount(sale.winners.bids);
            case 5:
                return Integer.bitCount(soldFields());
            case 6:
                return sale.totalPaid();
            case 7:
                return totalProfit();
            default:
                return winningPrices();
        }
    }

    /** Tells of the sale of one field alone what is asked. */
    public int alone(int field, int what) throws IndexOutOfBoundsException {
        requireField(field);
        requireWhat(what, TOP_WHAT_ALONE);
        int winner = highestAlone(field, NONE);
        if (winner == NONE) {
            return NONE;
        }
        switch (what) {
            case 0:
                return winner;
            case 1:
                return owners[winner];
            default:
                return secondPrice(field, winner);
        }
    }

    // ---- what would be

    /** Tells what would be asked of a sale in which a bid had this price. */
    public int would(int bid, int price, int what) throws IndexOutOfBoundsException, IllegalArgumentException {
        requireBid(bid);
        requireWhat(what, TOP_WHAT_WOULD);
        requireAmount(price);
        int toldPrice = prices[bid];
        putPrice(bid, price);
        settle(imagined, NOBODY);
        putPrice(bid, toldPrice);
        switch (what) {
            case 0:
                return asNumber(imagined.winners.has(bid));
            case 1:
                return imagined.paid[owners[bid]];
            case 2:
                return profit(imagined, owners[bid]);
            default:
                return imagined.winners.gained;
        }
    }

    /** Tells the least price with which a bid would win; -1 without one. */
    public int least(int bid) throws IndexOutOfBoundsException {
        requireBid(bid);
        int toldPrice = prices[bid];
        // A higher price adds the same to every set that has the bid, and
        // nothing to the others: the prices that lose all lie below those that win.
        int highestLosing = NONE;
        for (int step = FIRST_STEP; step > 0; step /= 2) {
            int tried = highestLosing + step;
            if (tried <= TOP_AMOUNT && !winsWith(bid, tried)) {
                highestLosing = tried;
            }
        }
        putPrice(bid, toldPrice);
        return highestLosing < TOP_AMOUNT ? highestLosing + 1 : NONE;
    }

    /** Tells the bidder without whom the others would pay the most; -1 without bidders. */
    public int rival() {
        int found = NONE;
        int mostPaid = NONE;
        for (int bidder = 0; bidder < bidderCount; bidder++) {
            settle(imagined, 1 << bidder);
            int paid = imagined.totalPaid();
            if (paid > mostPaid) {
                found = bidder;
                mostPaid = paid;
            }
        }
        return found;
    }

    /** Tells the mean of what those who win pay; 0 without any. */
    public double mean() {
        int winners = Integer.bitCount(sale.winners.bids);
        if (winners == 0) {
            return 0.0;
        }
        return (double) sale.totalPaid() / (double) winners;
    }

    /** Computes a checksum of all that there is. */
    public long digest() {
        long digest = DIGEST_START;
        for (int what = 0; what <= TOP_WHAT_COUNT; what++) {
            digest = digest * DIGEST_FACTOR + count(what);
        }
        for (int field = 0; field < fieldCount; field++) {
            digest = digestField(digest, field);
        }
        for (int bidder = 0; bidder < bidderCount; bidder++) {
            for (int what = 0; what <= TOP_WHAT_ABOUT; what++) {
                digest = digest * DIGEST_FACTOR + about(bidder, what);
            }
        }
        for (int bid = 0; bid < bidCount; bid++) {
            for (int what = 0; what <= TOP_WHAT_TOLD; what++) {
                digest = digest * DIGEST_FACTOR + told(bid, what);
            }
        }
        return digest;
    }

    private long digestField(long start, int field) {
        long digest = start;
        for (int what = 0; what <= TOP_WHAT_LAND; what++) {
            digest = digest * DIGEST_FACTOR + land(field, what);
        }
        for (int what = 0; what <= TOP_WHAT_ALONE; what++) {
            digest = digest * DIGEST_FACTOR + alone(field, what);
        }
        return digest;
    }

    // ---- what arguments must be

    private void requireField(int field) {
        if (field < 0 || field >= fieldCount) {
            throw new IndexOutOfBoundsException("no such field");
        }
    }

    private void requireBidder(int bidder) {
        if (bidder < 0 || bidder >= bidderCount) {
            throw new IndexOutOfBoundsException("no such bidder");
        }
    }

    private void requireBid(int bid) {
        if (bid < 0 || bid >= bidCount) {
            throw new IndexOutOfBoundsException("no such bid");
        }
    }

    private static void requireWhat(int what, int top) {
        if (what < 0 || what > top) {
            throw new IndexOutOfBoundsException("no such thing to ask for");
        }
    }

    private static void requireReserve(int reserve) {
        if (reserve < 0 || reserve > TOP_RESERVE) {
            throw new IllegalArgumentException("no such reserve");
        }
    }

    private static void requireAmount(int amount) {
        if (amount < 0 || amount > TOP_AMOUNT) {
            throw new IllegalArgumentException("no such price or worth");
        }
    }

    private void requireBundle(int fields) {
        if (fields <= 0 || fields >= 1 << fieldCount) {
            throw new IllegalArgumentException("no such fields");
        }
    }

    // ---- bids

    /** The only place that writes prices, so that the gains always follow them. */
    private void putPrice(int bid, int price) {
        prices[bid] = price;
        gains[bid] = price - reservesOf(bundles[bid]);
    }

    private int reservesOf(int fields) {
        int sum = 0;
        for (int field = 0; field < fieldCount; field++) {
            if (hasField(fields, field)) {
                sum += reserves[field];
            }
        }
        return sum;
    }

    private static boolean hasField(int fields, int field) {
        return (fields & (1 << field)) != 0;
    }

    private boolean counts(int bid) {
        return !withdrawn[bid] && ins[owners[bid]] && gains[bid] >= 0;
    }

    private int bidsLeft() {
        int left = 0;
        for (int bidder = 0; bidder < bidderCount; bidder++) {
            left += bidsLeftOf(bidder);
        }
        return left;
    }

    private int bidsLeftOf(int bidder) {
        int left = 0;
        for (int bid = 0; bid < bidCount; bid++) {
            if (owners[bid] == bidder && !withdrawn[bid]) {
                left++;
            }
        }
        return left;
    }

    private int countingBidsWith(int field) {
        int found = 0;
        for (int bid = 0; bid < bidCount; bid++) {
            if (counts(bid) && hasField(bundles[bid], field)) {
                found++;
            }
        }
        return found;
    }

    private int ownerOf(int bid) {
        return bid == NONE ? NONE : owners[bid];
    }

    private static int asNumber(boolean is) {
        return is ? 1 : 0;
    }

    // ---- the sale

    /** Settles the sale that is held if these bidders are out as well. */
    private void settle(Sale settled, int absent) {
        settled.clear();
        findWinners(settled.winners, absent);
        for (int bidder = 0; bidder < bidderCount; bidder++) {
            findWinners(search, absent | (1 << bidder));
            settled.gainedWithout[bidder] = search.gained;
        }
        for (int bid = 0; bid < bidCount; bid++) {
            if (settled.winners.has(bid)) {
                award(settled, bid);
            }
        }
    }

    private void award(Sale settled, int bid) {
        int bidder = owners[bid];
        int gainedByOthers = settled.winners.gained - gains[bid];
        settled.winningBids[bidder] = bid;
        settled.paid[bidder] = reservesOf(bundles[bid]) + settled.gainedWithout[bidder] - gainedByOthers;
    }

    private void findWinners(BestSet best, int absent) {
        best.clear();
        seek(best, 0, 0, absent, 0, 0);
    }

    /** Looks at a set of bids and at all sets that add to it bids from one on. */
    private void seek(BestSet best, int from, int takenFields, int takenBidders, int gained, int bids) {
        best.consider(gained, bids);
        for (int bid = from; bid < bidCount; bid++) {
            seekWith(best, bid, takenFields, takenBidders, gained, bids);
        }
    }

    /** Ends: the bid that seek starts from rises with each level, up to the 12 there can be. */
    private void seekWith(BestSet best, int bid, int takenFields, int takenBidders, int gained, int bids) {
        int bidderBit = 1 << owners[bid];
        boolean clashes = (takenFields & bundles[bid]) != 0 || (takenBidders & bidderBit) != 0;
        if (clashes || !counts(bid)) {
            return;
        }
        seek(best, bid + 1, takenFields | bundles[bid], takenBidders | bidderBit,
                gained + gains[bid], bids | (1 << bid));
    }

    /** Leaves the price at what was tried: the caller puts the told one back. */
    private boolean winsWith(int bid, int price) {
        putPrice(bid, price);
        findWinners(search, NOBODY);
        return search.has(bid);
    }

    private int profit(Sale settled, int bidder) {
        int bid = settled.winningBids[bidder];
        return bid == NONE ? 0 : worths[bid] - settled.paid[bidder];
    }

    private int totalProfit() {
        int total = 0;
        for (int bidder = 0; bidder < bidderCount; bidder++) {
            total += profit(sale, bidder);
        }
        return total;
    }

    private int winningPrices() {
        int total = 0;
        for (int bid = 0; bid < bidCount; bid++) {
            if (sale.winners.has(bid)) {
                total += prices[bid];
            }
        }
        return total;
    }

    private int soldFields() {
        int sold = 0;
        for (int bid = 0; bid < bidCount; bid++) {
            if (sale.winners.has(bid)) {
                sold |= bundles[bid];
            }
        }
        return sold;
    }

    private int winnerOfField(int field) {
        for (int bid = 0; bid < bidCount; bid++) {
            if (sale.winners.has(bid) && hasField(bundles[bid], field)) {
                return bid;
            }
        }
        return NONE;
    }

    // ---- one field alone

    /** The bid that comes first of those for this field alone, leaving out one bidder's. */
    private int highestAlone(int field, int leftOut) {
        int highest = NONE;
        for (int bid = 0; bid < bidCount; bid++) {
            boolean competes = counts(bid) && bundles[bid] == 1 << field && owners[bid] != leftOut;
            if (competes && (highest == NONE || prices[bid] > prices[highest])) {
                highest = bid;
            }
        }
        return highest;
    }

    private int secondPrice(int field, int winner) {
        int second = highestAlone(field, owners[winner]);
        // A bid that counts is never below the reserve, so only without one does it set the price.
        return second == NONE ? reserves[field] : prices[second];
    }
}
