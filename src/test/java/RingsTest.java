/** Promises 44 to 47: rings. */
public final class RingsTest {
    private static final String NAMES = "name s;name t;name u;name v;";

    public static void main(String[] args) {
        threeRound();
        leastNumber();
        ownNameLiked();
        nobodyBearsIt();
        laterRounds();
        content();
        tradeAndTheQueue();
        Check.end();
    }

    private static void gets(NineNames x, int... want) {
        for (int p = 0; p < want.length; p++) {
            if (want[p] == -1) {
                Check.refused("ringed(" + p + ")", x, x.ringed(p), 8);
            } else {
                Check.fine("ringed(" + p + ")", x, x.ringed(p), want[p]);
            }
        }
    }

    private static void threeRound() {
        NineNames x = Check.with(NAMES + "person a born 1700 of s;person b born 1700 of t;person c born 1700 of u;"
                + "person d born 1700;person e born 1700 of v;likes a t;likes b u;likes c s;likes d s;");
        x.die(4);
        gets(x, 1, 2, 0, -1, -1);
        Check.refused("nobody", x, x.ringed(5), 2);
        Check.refused("below", x, x.ringed(-1), 2);
        Check.fine("rings", x, x.rings(), 1);
        Check.fine("content", x, x.content(), 0);
        Check.fine("nothing changed", x, x.person(0, 2), 0);
        Check.fine("trade", x, x.trade(), 3);
        Check.fine("a bears t", x, x.person(0, 2), 1);
        Check.fine("the dead one what he bore", x, x.person(4, 2), 3);
        Check.fine("rings", x, x.rings(), 0);
        Check.fine("content", x, x.content(), 3);
        Check.fine("nothing to trade", x, x.trade(), 0);
    }

    /** Both bear t: the least number of them is pointed at, the other comes too late. */
    private static void leastNumber() {
        NineNames x = Check.with(NAMES + "person a born 1700 of t;person b born 1700 of t;person c born 1700 of s;"
                + "likes a s;likes b s;likes c t;");
        gets(x, 0, 1, 1);
        Check.fine("rings", x, x.rings(), 1);
        Check.fine("trade", x, x.trade(), 2);
        NineNames y = Check.with(NAMES + "person a born 1700 of t;person b born 1700 of t;person c born 1700 of s;"
                + "likes b s;likes c t;");
        // c points at a, who keeps what he has; then at b.
        gets(y, 1, 0, 1);
        Check.fine("rings", y, y.rings(), 1);
    }

    private static void ownNameLiked() {
        NineNames x = Check.with(NAMES + "person a born 1700 of s;person b born 1700 of t;person c born 1700 of s;"
                + "likes a u s t;likes b s;likes c t;");
        // a likes s ahead of t, and nobody bears u: he points at himself though.
        gets(x, 0, 0, 1);
        Check.fine("rings", x, x.rings(), 1);
        NineNames y = Check.with(NAMES + "person a born 1700 of s;person b born 1700 of s;person c born 1700 of t;"
                + "likes b s;likes c s;likes a t;");
        gets(y, 1, 0, 0);
    }

    private static void nobodyBearsIt() {
        NineNames x = Check.with(NAMES + "person a born 1700 of s;person b born 1700 of t;likes a v u t;likes b v s;");
        gets(x, 1, 0);
        Check.fine("rings", x, x.rings(), 1);
        Check.fine("none likes most what he gets", x, x.content(), 0);
        x.trade();
        Check.fine("none bears what he likes most", x, x.content(), 0);
    }

    private static void laterRounds() {
        NineNames x = Check.with(NAMES + "person a born 1700 of s;person b born 1700 of t;person c born 1700 of u;"
                + "person d born 1700 of v;likes a t u;likes b t;likes c s;likes d u s;");
        // b keeps t, a and c swap, then d keeps v.
        gets(x, 2, 1, 0, 3);
        Check.fine("rings", x, x.rings(), 1);
        NineNames y = Check.with(NAMES + "person a born 1700 of s;person b born 1700 of t;person c born 1700 of u;"
                + "person d born 1700 of v;likes a t;likes b s;likes c v;likes d u;");
        gets(y, 1, 0, 3, 2);
        Check.fine("two rings", y, y.rings(), 2);
        Check.fine("four get another", y, y.trade(), 4);
    }

    private static void content() {
        NineNames x = Check.with(NAMES + "person a born 1700 of s;person b born 1700 of t;person c born 1700;"
                + "person d born 1700;person e born 1700 of u;person f born 1700 of u;likes a s t;likes b s t;likes d s;");
        Check.fine("a, e, f", x, x.content(), 3);
        x.die(4);
        Check.fine("a, f", x, x.content(), 2);
    }

    private static void tradeAndTheQueue() {
        NineNames x = Check.with("most 1;" + NAMES + "person a born 1700 of s;person b born 1700 of t;person c born 1700;"
                + "likes a t;likes b s;waits a for t;waits c for s;");
        Check.fine("trade", x, x.trade(), 2);
        Check.fine("a waits no more", x, x.many(7), 1);
        Check.fine("c waits yet", x, x.waiting(0, 0), 2);
        NineNames y = Check.with(NAMES + "person a born 1700;waits a for t;");
        Check.fine("nobody takes part", y, y.trade(), 0);
        Check.fine("but the queue is gone through", y, y.person(0, 2), 1);
    }
}
