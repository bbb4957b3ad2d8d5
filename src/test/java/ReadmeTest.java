/** The example of README.md: what it says there is what is answered. */
public final class ReadmeTest {
    private ReadmeTest() {
    }

    public static void main(String[] args) {
        Check.test("README.md: the example", ReadmeTest::example);
        Check.end();
    }

    private static void example() {
        PastureBids sale = new PastureBids();
        int meadow = sale.field(10);
        int slope = sale.field(20);
        int ann = sale.join();
        int bob = sale.join();
        int cid = sale.join();
        sale.bid(ann, 1 << meadow, 50);
        sale.bid(bob, 1 << slope, 40);
        int both = sale.bid(cid, 1 << meadow | 1 << slope, 80);
        Check.same("who gets the meadow", ann, sale.land(meadow, 1));
        Check.same("what ann pays", 40, sale.about(ann, 3));
        Check.same("ann's profit", 10, sale.about(ann, 4));
        Check.same("whether cid would win with 95", 1, sale.would(both, 95, 0));
        Check.same("the least price for cid", 91, sale.least(both));
        Check.same("the mean of what is paid", 35.0, sale.mean());
        sale.setPrice(both, 91);
        Check.same("who gets the meadow then", cid, sale.land(meadow, 1));
    }
}
