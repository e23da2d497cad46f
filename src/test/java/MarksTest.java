/** Promises 61 and 62: marks, to which all is taken back. */
public final class MarksTest {
    private static final String TOWN = "most 2;name s;name t;person a born 1750 of s coins 20;person b born 1760 of t;"
            + "person c born 1770;likes a t;wed a b;waits c for s;";

    public static void main(String[] args) {
        counts();
        allIsTakenBack();
        centuriesToo();
        whatIsNotTakenBack();
        Check.end();
    }

    private static void counts() {
        NineNames x = Check.with(TOWN);
        Check.refused("none", x, x.back(), 8);
        Check.fine("one", x, x.mark(), 1);
        x.earn(0, 1);
        Check.fine("two", x, x.mark(), 2);
        x.earn(0, 1);
        Check.fine("three", x, x.mark(), 3);
        x.earn(0, 1);
        Check.refused("a fourth", x, x.mark(), 7);
        for (int left = 2; left >= 0; left--) {
            Check.fine("back", x, x.back(), left);
            Check.fine("as it was", x, x.person(0, 3), 20 + left);
        }
        Check.refused("no more", x, x.back(), 8);
    }

    private static void allIsTakenBack() {
        NineNames x = Check.with(TOWN);
        x.mark();
        x.tray(0, 0, 2);
        x.rule(1);
        x.wish(0, 0, 1);
        x.abroad(2, true);
        x.sell(1, 0);
        x.part(0, 1);
        x.birth(0, 1);
        x.ask(1, 0);
        x.year(99);
        Check.town(x, "year 2000;life 99;name q worth 3;");
        Check.fine("back", x, x.back(), 0);
        int[] many = {2, 3, 7, 4, 1800, 2, 80, 1, 3, 0, 20};
        for (int what = 0; what < many.length; what++) {
            Check.fine("many(" + what + ")", x, x.many(what), many[what]);
        }
        Check.refused("never sold", x, x.surname(1, 3), 8);
        Check.fine("likes", x, x.liked(0, 0), 1);
        Check.fine("worth", x, x.surname(0, 0), 10);
        Check.fine("bears", x, x.person(0, 2), 0);
        Check.fine("waits for", x, x.waiting(0, 1), 0);
        Check.refused("nobody's child", x, x.person(2, 5), 8);
        Check.fine("their names", x, Check.centuries(x, "die a;when bears a t;end;"), 2);
        Check.fine("a birth anew", x, x.birth(0, 1), 3);
        Check.fine("living", x, x.many(2), 15);
    }

    private static void centuriesToo() {
        NineNames x = Check.with(TOWN, "year 3;");
        x.mark();
        Check.centuries(x, "year 4;year 4;");
        x.mark();
        Check.town(x, TOWN);
        Check.refused("none", x, x.live(0), 8);
        x.back();
        Check.fine("two steps", x, x.live(0), 2);
        x.back();
        Check.fine("one step", x, x.live(0), 1);
        Check.fine("three years", x, x.many(4), 1803);
        NineNames y = Check.with(TOWN);
        y.mark();
        Check.centuries(y, "year 4;");
        y.back();
        Check.refused("none then", y, y.live(0), 8);
    }

    private static void whatIsNotTakenBack() {
        NineNames x = Check.with(TOWN);
        x.mark();
        x.tray(1, 3, 4);
        x.write(1, 1, 5);
        x.luck(0, 1, 8);
        Check.feed(x, "year");
        Check.town(x, "!");
        Check.feed(x, "year");
        x.back();
        Check.fine("a tray", x, x.read(1, 1), 5);
        Check.fraction("a fraction", x, 1, 2);
        Check.due("a fault", x.fault(0), 2);
        Check.due("the tape", x.feed(0, 0, 0, 0, 0), 40);
    }
}
