/** Runs of up to the 512 calls that are promised, each answer compared with that of the plain model. */
public final class LongRunsTest {
    private static final int RUNS = 480;
    /** Each has at most 20 calls; 25 stand ahead of them and 108 behind them. */
    private static final int ROUNDS = 18;

    private final PastureBids sale = new PastureBids();
    private final PlainModel model = new PlainModel();
    private final int mostBids;
    private final int topPrice;
    private long seed;

    private LongRunsTest(int run) {
        seed = run * 7919L + 17;
        // Low prices make the ties that high ones hardly ever make.
        topPrice = new int[] {3, 12, 60, 400, 999}[run % 5];
        mostBids = 5 + run % 8;
    }

    public static void main(String[] args) {
        for (int run = 0; run < RUNS; run++) {
            new LongRunsTest(run).play();
        }
        mostCallsAtMostBids();
        Check.end();
    }

    private int below(int bound) {
        seed = seed * 6364136223846793005L + 1442695040888963407L;
        return (int) ((seed >>> 33) % bound);
    }

    private void play() {
        while (model.fields < 1 + below(8)) {
            addField();
        }
        while (model.bidders < 2 + below(4)) {
            addBidder();
        }
        int bidsAtFirst = below(mostBids);
        while (model.bids < bidsAtFirst) {
            addBid();
        }
        for (int round = 0; round < ROUNDS; round++) {
            change();
            ask();
        }
        compareAll();
    }

    private void addField() {
        int reserve = below(4) == 0 ? 0 : below(Math.min(100, topPrice));
        model.reserves[model.fields] = reserve;
        Check.same("field(" + reserve + ")", model.fields, sale.field(reserve));
        model.fields++;
    }

    private void addBidder() {
        model.in[model.bidders] = true;
        Check.same("join()", model.bidders, sale.join());
        model.bidders++;
    }

    private void addBid() {
        int number = model.bids;
        model.owners[number] = below(model.bidders);
        model.bundles[number] = below(2) == 0 ? 1 << below(model.fields) : 1 + below((1 << model.fields) - 1);
        model.prices[number] = below(topPrice + 1);
        model.worths[number] = model.prices[number];
        model.bids++;
        Check.same("bid()", number,
                sale.bid(model.owners[number], model.bundles[number], model.prices[number]));
    }

    private void change() {
        int kind = below(12);
        if (kind < 4 && model.bids < mostBids) {
            addBid();
        } else if (kind == 4) {
            int field = below(model.fields);
            int reserve = below(Math.min(100, topPrice));
            Check.same("setReserve()", model.reserves[field], sale.setReserve(field, reserve));
            model.reserves[field] = reserve;
        } else if (kind == 5) {
            int bidder = below(model.bidders);
            boolean in = below(4) > 0;
            Check.same("setIn()", model.in[bidder], sale.setIn(bidder, in));
            model.in[bidder] = in;
        } else if (kind == 6 && model.fields < 8 && below(4) == 0) {
            addField();
        } else if (kind == 7 && model.bidders < 5 && below(4) == 0) {
            addBidder();
        } else if (kind > 7 && model.bids > 0) {
            changeBid(kind, below(model.bids));
        }
    }

    private void changeBid(int kind, int bid) {
        int amount = below(topPrice + 1);
        if (kind == 8) {
            Check.same("setWorth()", model.worths[bid], sale.setWorth(bid, amount));
            model.worths[bid] = amount;
        } else if (kind == 9 && below(6) == 0 && !model.withdrawn[bid]) {
            model.withdrawn[bid] = true;
            int left = 0;
            for (int other = 0; other < model.bids; other++) {
                left += model.withdrawn[other] ? 0 : 1;
            }
            Check.same("withdraw()", left, sale.withdraw(bid));
        } else {
            Check.same("setPrice()", model.prices[bid], sale.setPrice(bid, amount));
            model.prices[bid] = amount;
        }
    }

    private void ask() {
        int field = below(model.fields);
        int bidder = below(model.bidders);
        Check.same("mean()", model.mean(), sale.mean());
        for (int what = 0; what <= 5; what++) {
            Check.same("about(" + bidder + ", " + what + ")", model.about(bidder, what), sale.about(bidder, what));
        }
        for (int what = 0; what <= 2; what++) {
            Check.same("land(" + field + ", " + what + ")", model.land(field, what), sale.land(field, what));
            Check.same("alone(" + field + ", " + what + ")", model.alone(field, what), sale.alone(field, what));
        }
        if (model.bids > 0) {
            askBid(below(model.bids));
        }
        if (below(6) == 0) {
            Check.same("rival()", model.rival(), sale.rival());
        }
    }

    private void askBid(int bid) {
        int price = below(topPrice + 1);
        for (int what = 0; what <= 3; what++) {
            Check.same("would(" + bid + ", " + price + ", " + what + ")", model.would(bid, price, what),
                    sale.would(bid, price, what));
        }
        if (model.bids <= 6 && below(6) == 0) {
            Check.same("least(" + bid + ")", model.least(bid), sale.least(bid));
        }
    }

    private void compareAll() {
        long digest = 1619;
        for (int what = 0; what <= 8; what++) {
            Check.same("count(" + what + ")", model.count(what), sale.count(what));
            digest = digest * 31 + model.count(what);
        }
        for (int field = 0; field < model.fields; field++) {
            for (int what = 0; what <= 5; what++) {
                digest = digest * 31 + (what < 3 ? model.land(field, what) : model.alone(field, what - 3));
            }
        }
        for (int bidder = 0; bidder < model.bidders; bidder++) {
            for (int what = 0; what <= 5; what++) {
                digest = digest * 31 + model.about(bidder, what);
            }
        }
        for (int bid = 0; bid < model.bids; bid++) {
            for (int what = 0; what <= 7; what++) {
                Check.same("told(" + bid + ", " + what + ")", model.told(bid, what), sale.told(bid, what));
                digest = digest * 31 + model.told(bid, what);
            }
        }
        Check.same("digest()", digest, sale.digest());
        Check.same("rival() at the end", model.rival(), sale.rival());
        if (model.bids > 0) {
            int bid = below(model.bids);
            Check.same("least(" + bid + ") at the end", model.least(bid), sale.least(bid));
        }
    }

    /** The dearest calls, 512 in all, still answer alike. */
    private static void mostCallsAtMostBids() {
        PastureBids sale = Sales.with(5, 0, 0, 0, 0, 0, 0, 0, 0);
        for (int bid = 0; bid < 12; bid++) {
            sale.bid(bid % 5, 1 << bid % 8, 10 + bid);
        }
        int rival = sale.rival();
        long digest = sale.digest();
        for (int call = 0; call < 160; call++) {
            Check.same("rival() once more", rival, sale.rival());
            Check.same("digest() once more", digest, sale.digest());
            sale.least(call % 12);
        }
    }
}
