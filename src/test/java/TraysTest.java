/** Promises 1 to 8: a new object, status, the fraction, trays. */
public final class TraysTest {
    public static void main(String[] args) {
        newObject();
        statusIsOfTheLatestCall();
        layTrays();
        writeAndRead();
        pour();
        Check.end();
    }

    private static void newObject() {
        NineNames x = new NineNames();
        Check.due("NONE", NineNames.NONE, -1);
        Check.due("status of a new object", x.status(), 0);
        Check.fraction("a new object", x, 0, 1);
        Check.due("fault(0) ahead of any", x.fault(0), -1);
        Check.due("fault(1) ahead of any", x.fault(1), -1);
        for (int t = 0; t < 4; t++) {
            Check.refused("read of a missing tray", x, x.read(t, 0), 3);
        }
        Check.fine("new many(0)", x, x.many(0), 0);
        Check.fine("new many(1)", x, x.many(1), 0);
        Check.fine("new many(4)", x, x.many(4), 1800);
        Check.fine("new many(5)", x, x.many(5), 9);
        Check.fine("new many(6)", x, x.many(6), 80);
        Check.refused("new live", x, x.live(0), 8);
        Check.refused("new lived", x, x.lived(0), 8);
        Check.refused("new mean", x, x.mean(0, 1), 8);
        Check.refused("new back", x, x.back(), 8);
        Check.due("the first feed", x.feed(0, 0, 0, 0, 0), 20);
    }

    private static void statusIsOfTheLatestCall() {
        NineNames x = new NineNames();
        x.many(99);
        Check.due("status", x.status(), 5);
        x.fault(0);
        x.fault(7);
        x.feed(1, 2, 3, 4, 5);
        x.top();
        x.bottom();
        Check.due("status behind calls that have none", x.status(), 5);
        x.many(0);
        Check.due("status behind a good call", x.status(), 0);
    }

    private static void layTrays() {
        NineNames x = new NineNames();
        Check.refused("tray(-1)", x, x.tray(-1, 0, 1), 1);
        Check.refused("tray(4)", x, x.tray(4, 0, 1), 1);
        Check.refused("sort -1", x, x.tray(0, -1, 1), 1);
        Check.refused("sort 4", x, x.tray(0, 4, 99), 1);
        Check.refused("61 numbers", x, x.tray(0, 0, 61), 5);
        Check.refused("the most numbers", x, x.tray(0, 0, Integer.MAX_VALUE), 5);
        Check.refused("-1 numbers", x, x.tray(0, 0, -1), 6);
        Check.refused("the fewest numbers", x, x.tray(0, 0, Integer.MIN_VALUE), 6);
        Check.refused("still missing", x, x.read(0, 0), 3);
        Check.fine("60 numbers", x, x.tray(3, 3, 60));
        Check.fine("the last one", x, x.read(3, 59), 0);
        Check.refused("the 61st", x, x.read(3, 60), 4);
        Check.fine("no numbers", x, x.tray(0, 0, 0));
        Check.refused("of none the first", x, x.read(0, 0), 4);
        x.write(3, 5, 77);
        Check.refused("a wrong one changes nothing", x, x.tray(3, 3, 61), 5);
        Check.fine("what stood there", x, x.read(3, 5), 77);
        Check.fine("laid again", x, x.tray(3, 2, 9));
        Check.fine("is all 0", x, x.read(3, 5), 0);
    }

    private static void writeAndRead() {
        NineNames x = new NineNames();
        Check.refused("write to no tray", x, x.write(4, 0, 1), 1);
        Check.refused("write to a missing one", x, x.write(1, 0, 1), 3);
        Check.refused("read of no tray", x, x.read(-1, 0), 1);
        long[] cut = {-2, -2, -2, 0x7f_ffff_fffeL - 0x80_0000_0000L};
        for (int sort = 0; sort < 4; sort++) {
            x.tray(sort, sort, 3);
            Check.fine("write", x, x.write(sort, 2, cut[3]));
            Check.fine("what is cut to sort " + sort, x, x.read(sort, 2), cut[sort]);
            Check.refused("place 3 of 3", x, x.write(sort, 3, 1), 4);
            Check.refused("place -1", x, x.write(sort, -1, 1), 4);
            Check.refused("read place 3 of 3", x, x.read(sort, 3), 4);
            Check.refused("read place -1", x, x.read(sort, -1), 4);
        }
        x.write(0, 0, 128);
        Check.fine("128 in 8 bits", x, x.read(0, 0), -128);
        x.write(1, 0, 40000);
        Check.fine("40000 in 16 bits", x, x.read(1, 0), 40000 - 65536);
        x.write(2, 0, 1L << 32 | 5);
        Check.fine("beyond 32 bits", x, x.read(2, 0), 5);
        x.write(3, 0, Long.MIN_VALUE);
        Check.fine("64 bits", x, x.read(3, 0), Long.MIN_VALUE);
        x.write(3, 1, -1);
        Check.fine("-1 is no NONE", x, x.read(3, 1), -1);
    }

    private static void pour() {
        NineNames x = new NineNames();
        x.tray(0, 1, 6);
        x.tray(1, 1, 3);
        x.tray(2, 2, 6);
        for (int k = 0; k < 6; k++) {
            x.write(0, k, k + 1);
        }
        Check.refused("from no tray", x, x.pour(4, 0, 1, 0, 1), 1);
        Check.refused("to no tray, from a missing one", x, x.pour(3, 0, -1, 0, 1), 1);
        Check.refused("from a missing one", x, x.pour(3, 0, 1, 0, 1), 3);
        Check.refused("to a missing one", x, x.pour(0, 0, 3, 0, -1), 3);
        Check.refused("unlike sorts ahead of below 0", x, x.pour(0, 9, 2, 9, -1), 11);
        Check.refused("below 0 ahead of a wrong place", x, x.pour(0, -1, 1, 9, -1), 6);
        Check.refused("too few in the first", x, x.pour(0, 5, 1, 0, 2), 4);
        Check.refused("too few in the second", x, x.pour(0, 0, 1, 1, 3), 4);
        Check.refused("place -1", x, x.pour(0, -1, 1, 0, 1), 4);
        Check.refused("place -1 of the second", x, x.pour(0, 0, 1, -1, 1), 4);
        Check.refused("beyond all bounds", x, x.pour(0, Integer.MAX_VALUE, 1, 0, Integer.MAX_VALUE), 4);
        Check.fine("two over", x, x.pour(0, 4, 1, 1, 2));
        row(x, 1, 0, 5, 6);
        Check.fine("within itself, ahead", x, x.pour(0, 0, 0, 1, 4));
        row(x, 0, 1, 1, 2, 3, 4, 6);
        Check.fine("within itself, back", x, x.pour(0, 2, 0, 0, 4));
        row(x, 0, 2, 3, 4, 6, 4, 6);
        Check.fine("none", x, x.pour(0, 0, 1, 0, 0));
        row(x, 1, 0, 5, 6);
    }

    private static void row(NineNames x, int tray, int... want) {
        for (int k = 0; k < want.length; k++) {
            Check.fine("place " + k + " of tray " + tray, x, x.read(tray, k), want[k]);
        }
    }
}
