/** Promises 39 to 43: weddings. */
public final class WeddingsTest {
    private static final String TOWN = "year 1816;most 2;name smith worth 30;name jones;name lee worth 30;"
            + "person a born 1780 of smith;person b born 1780 of smith;person c born 1800 of jones;person d born 1799 of lee;"
            + "person e born 1801 of lee;person f born 1790;person g born 1790;child c of a b;wed f g;";

    public static void main(String[] args) {
        canWed();
        suitors();
        match();
        couples();
        couplesOfASurname();
        crossing();
        Check.end();
    }

    private static void canWed() {
        NineNames x = Check.with(TOWN);
        Check.refused("nobody", x, x.canWed(0, 7, 9), 2);
        Check.refused("way 3", x, x.canWed(0, 1, 3), 5);
        Check.refused("way -1", x, x.canWed(0, 1, -1), 5);
        int[][] want = {
            {0, 0, 0, 0}, {0, 1, 0, 1}, {0, 1, 1, 1}, {0, 1, 2, 1}, {0, 2, 0, 0}, {2, 1, 0, 0}, {0, 3, 0, 1}, {0, 3, 1, 0},
            {0, 3, 2, 0}, {0, 4, 0, 0}, {0, 5, 0, 0}, {2, 3, 0, 1}, {2, 3, 1, 0}, {2, 3, 2, 1}, {3, 2, 1, 1}, {3, 2, 2, 0},
        };
        for (int[] row : want) {
            String call = "canWed(" + row[0] + ", " + row[1] + ", " + row[2] + ")";
            Check.fine(call, x, x.canWed(row[0], row[1], row[2]), row[3]);
        }
        x.part(5, 6);
        Check.fine("dash, way 0", x, x.canWed(0, 5, 0), 1);
        Check.fine("dash, way 1", x, x.canWed(0, 5, 1), 0);
        Check.fine("dash, way 2, no place", x, x.canWed(0, 5, 2), 0);
        Check.fine("dash takes jones", x, x.canWed(5, 2, 1), 1);
        x.die(5);
        Check.fine("the dead", x, x.canWed(5, 2, 0), 0);
    }

    private static void suitors() {
        NineNames x = Check.with(TOWN);
        Check.fine("of a", x, x.suitors(0), Check.set(1, 3));
        Check.fine("of c", x, x.suitors(2), Check.set(3));
        Check.fine("of a child", x, x.suitors(4), 0);
        Check.fine("of one who is wed", x, x.suitors(5), 0);
        Check.refused("nobody", x, x.suitors(7), 2);
        x.die(3);
        Check.fine("of the dead", x, x.suitors(3), 0);
        Check.fine("not the dead", x, x.suitors(0), Check.set(1));
    }

    private static void match() {
        NineNames x = Check.with(TOWN);
        Check.fine("a takes b's", x, x.match(0), 1);
        Check.refused("c finds no place", x, x.match(2), 8);
        Check.fine("d takes c's", x, x.match(3), 2);
        Check.refused("who is wed", x, x.match(5), 8);
        Check.refused("nobody", x, x.match(-1), 2);
        x.rule(9);
        Check.fine("c takes d's", x, x.match(2), 3);
        Check.fine("of the same worth the first", x, x.match(3), 0);
        Check.fine("of the same worth the first", x, x.match(0), 1);
        x.die(2);
        Check.refused("the dead", x, x.match(2), 8);
        NineNames y = Check.with("name n worth 0;person a born 1700 of n;person b born 1700;");
        Check.fine("worth nothing", y, y.match(1), 0);
        Check.refused("dash is no match", y, y.match(0), 8);
    }

    private static void couples() {
        NineNames x = Check.with(TOWN);
        Check.fine("a and b, c and d", x, x.couples(), 2);
        x.part(5, 6);
        Check.fine("f and g, too", x, x.couples(), 3);
        x.die(3);
        Check.fine("c with f or g", x, x.couples(), 2);
        Check.fine("of nobody", new NineNames(), new NineNames().couples(), 0);
        StringBuilder text = new StringBuilder();
        for (char c = 'a'; c <= 'l'; c++) {
            text.append("person p").append(c).append(" born 1780;");
        }
        NineNames y = Check.with(text.toString());
        Check.fine("all twelve", y, y.couples(), 6);
        y.die(4);
        Check.fine("all but one of eleven", y, y.couples(), 5);
    }

    private static void couplesOfASurname() {
        NineNames x = Check.with(TOWN);
        Check.fine("of smith", x, x.couplesOf(0), 1);
        Check.fine("of jones", x, x.couplesOf(1), 1);
        Check.fine("of lee", x, x.couplesOf(2), 1);
        x.part(5, 6);
        Check.fine("of smith, each with another", x, x.couplesOf(0), 2);
        Check.refused("no such", x, x.couplesOf(3), 2);
        Check.refused("below", x, x.couplesOf(-1), 2);
        x.die(0);
        x.die(1);
        Check.fine("of the dead none", x, x.couplesOf(0), 0);
    }

    /** Taking whoever comes first would find one couple fewer. */
    private static void crossing() {
        NineNames x = Check.with("person m born 1700;person n born 1700;person a born 1750;person b born 1750;"
                + "person c born 1750;person d born 1750;child c of m n;child d of m n;child a of m n;"
                + "wed m n;");
        Check.fine("b with one of three", x, x.couples(), 1);
        x.part(0, 1);
        Check.fine("m with n, b with one", x, x.couples(), 2);
        NineNames y = Check.with("person a born 1750;person b born 1750;person c born 1750;person d born 1750;"
                + "person m born 1700;person n born 1700;child c of m n;child d of m n;wed m n;child a of c d;");
        Check.fine("a with b first is worst", y, y.couples(), 1);
    }
}
