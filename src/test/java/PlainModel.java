/** The document's terms, written as they stand there, without any haste: tries every set of bids. */
final class PlainModel {
    final int[] reserves = new int[8];
    final boolean[] in = new boolean[5];
    final int[] owners = new int[12];
    final int[] bundles = new int[12];
    final int[] prices = new int[12];
    final int[] worths = new int[12];
    final boolean[] withdrawn = new boolean[12];
    int fields;
    int bidders;
    int bids;

    int reservesOf(int bid) {
        int sum = 0;
        for (int field = 0; field < 8; field++) {
            sum += (bundles[bid] >> field & 1) * reserves[field];
        }
        return sum;
    }

    int gain(int bid) {
        return prices[bid] - reservesOf(bid);
    }

    boolean counts(int bid) {
        return !withdrawn[bid] && in[owners[bid]] && gain(bid) >= 0;
    }

    /** Whether all bids of the set count and can win together. */
    boolean canWin(int set) {
        for (int one = 0; one < bids; one++) {
            if ((set >> one & 1) == 1 && !counts(one)) {
                return false;
            }
            for (int other = 0; other < one; other++) {
                boolean both = (set >> one & 1) == 1 && (set >> other & 1) == 1;
                if (both && (owners[one] == owners[other] || (bundles[one] & bundles[other]) != 0)) {
                    return false;
                }
            }
        }
        return true;
    }

    int gainOfSet(int set) {
        int sum = 0;
        for (int bid = 0; bid < bids; bid++) {
            sum += (set >> bid & 1) * gain(bid);
        }
        return sum;
    }

    /** Goes up through the numbers, so that of equal sets the least number stays. */
    int winners() {
        int best = 0;
        for (int set = 1; set < 1 << bids; set++) {
            if (!canWin(set)) {
                continue;
            }
            int more = gainOfSet(set) - gainOfSet(best);
            if (more > 0 || more == 0 && Integer.bitCount(set) > Integer.bitCount(best)) {
                best = set;
            }
        }
        return best;
    }

    int gainWithout(int bidder) {
        boolean was = in[bidder];
        in[bidder] = false;
        int gain = gainOfSet(winners());
        in[bidder] = was;
        return gain;
    }

    int winningBid(int winners, int bidder) {
        for (int bid = 0; bid < bids; bid++) {
            if ((winners >> bid & 1) == 1 && owners[bid] == bidder) {
                return bid;
            }
        }
        return -1;
    }

    int paid(int winners, int bidder) {
        int bid = winningBid(winners, bidder);
        return bid < 0 ? 0 : reservesOf(bid) + gainWithout(bidder) - gainOfSet(winners & ~(1 << bid));
    }

    int profit(int winners, int bidder) {
        int bid = winningBid(winners, bidder);
        return bid < 0 ? 0 : worths[bid] - paid(winners, bidder);
    }

    int totalPaid() {
        int winners = winners();
        int sum = 0;
        for (int bidder = 0; bidder < bidders; bidder++) {
            sum += paid(winners, bidder);
        }
        return sum;
    }

    int told(int bid, int what) {
        int[] all = {owners[bid], bundles[bid], prices[bid], worths[bid], withdrawn[bid] ? 1 : 0, gain(bid),
            counts(bid) ? 1 : 0, winners() >> bid & 1};
        return all[what];
    }

    int about(int bidder, int what) {
        int left = 0;
        for (int bid = 0; bid < bids; bid++) {
            left += owners[bid] == bidder && !withdrawn[bid] ? 1 : 0;
        }
        int winners = winners();
        int[] all = {in[bidder] ? 1 : 0, left, winningBid(winners, bidder), paid(winners, bidder),
            profit(winners, bidder), gainWithout(bidder)};
        return all[what];
    }

    int land(int field, int what) {
        int winners = winners();
        int owner = -1;
        int counting = 0;
        for (int bid = 0; bid < bids; bid++) {
            if ((bundles[bid] >> field & 1) == 1) {
                counting += counts(bid) ? 1 : 0;
                owner = (winners >> bid & 1) == 1 ? owners[bid] : owner;
            }
        }
        return new int[] {reserves[field], owner, counting}[what];
    }

    int count(int what) {
        int winners = winners();
        int sold = 0;
        int profits = 0;
        int sum = 0;
        for (int field = 0; field < fields; field++) {
            sold += land(field, 1) >= 0 ? 1 : 0;
        }
        for (int bidder = 0; bidder < bidders; bidder++) {
            profits += profit(winners, bidder);
        }
        for (int bid = 0; bid < bids; bid++) {
            sum += (winners >> bid & 1) * prices[bid];
        }
        return new int[] {fields, bidders, bids, gainOfSet(winners), Integer.bitCount(winners), sold, totalPaid(),
            profits, sum}[what];
    }

    int alone(int field, int what) {
        int winner = -1;
        for (int bid = bids - 1; bid >= 0; bid--) {
            if (counts(bid) && bundles[bid] == 1 << field && (winner < 0 || prices[bid] >= prices[winner])) {
                winner = bid;
            }
        }
        if (winner < 0) {
            return -1;
        }
        int paid = reserves[field];
        for (int bid = 0; bid < bids; bid++) {
            if (counts(bid) && bundles[bid] == 1 << field && owners[bid] != owners[winner]) {
                paid = Math.max(paid, prices[bid]);
            }
        }
        return new int[] {winner, owners[winner], paid}[what];
    }

    int would(int bid, int price, int what) {
        int was = prices[bid];
        prices[bid] = price;
        int winners = winners();
        int[] all = {winners >> bid & 1, paid(winners, owners[bid]), profit(winners, owners[bid]),
            gainOfSet(winners)};
        prices[bid] = was;
        return all[what];
    }

    int least(int bid) {
        int was = prices[bid];
        int found = -1;
        for (int price = 0; price <= 999 && found < 0; price++) {
            prices[bid] = price;
            found = (winners() >> bid & 1) == 1 ? price : -1;
        }
        prices[bid] = was;
        return found;
    }

    int rival() {
        int found = -1;
        int most = -1;
        for (int bidder = 0; bidder < bidders; bidder++) {
            boolean was = in[bidder];
            in[bidder] = false;
            int paid = totalPaid();
            in[bidder] = was;
            if (paid > most) {
                most = paid;
                found = bidder;
            }
        }
        return found;
    }

    double mean() {
        int winners = Integer.bitCount(winners());
        return winners == 0 ? 0 : (double) totalPaid() / winners;
    }
}
