/** Promises 48 to 53: kin. */
public final class KinTest {
    private static final String TOWN = "year 1850;name smith;name jones;"
            + "person a born 1750 of smith;person b born 1755;person c born 1780 of jones;person d born 1782 of smith;"
            + "person e born 1810 of smith;person f born 1771 of smith;person g born 1850;person h born 1700;"
            + "child c of a b;child d of f b;child e of d c;";

    public static void main(String[] args) {
        steps();
        sets();
        nearness();
        couldBeParents();
        roundAbout();
        Check.end();
    }

    private static void steps() {
        NineNames x = Check.with(TOWN);
        Check.fine("oneself", x, x.kin(6, 6), 0);
        Check.fine("parent", x, x.kin(2, 0), 1);
        Check.fine("child", x, x.kin(0, 2), 1);
        Check.fine("grandchild", x, x.kin(0, 4), 2);
        Check.fine("by a child alone", x, x.kin(2, 3), 2);
        Check.fine("from a to f", x, x.kin(0, 5), 4);
        Check.refused("none", x, x.kin(0, 6), 8);
        Check.refused("nobody", x, x.kin(0, 8), 2);
        Check.refused("below", x, x.kin(-1, 0), 2);
        x.die(4);
        x.die(2);
        Check.fine("by the dead, too", x, x.kin(0, 5), 4);
    }

    private static void sets() {
        NineNames x = Check.with(TOWN);
        Check.fine("children of b", x, x.children(1), Check.set(2, 3));
        Check.fine("children of e", x, x.children(4), 0);
        NineNames y = Check.with("person a born 1700;person b born 1700;person c born 1700;child a of b c;");
        Check.fine("children of b", y, y.children(1), Check.set(0));
        Check.fine("from c to b by a", y, y.kin(2, 1), 2);
        Check.refused("nobody's children", x, x.children(8), 2);
        Check.fine("elders of e", x, x.elders(4), Check.set(0, 1, 2, 3, 5));
        Check.fine("elders of c", x, x.elders(2), Check.set(0, 1));
        Check.fine("elders of a", x, x.elders(0), 0);
        Check.refused("nobody's elders", x, x.elders(-1), 2);
        x.die(1);
        int child = x.birth(3, 4);
        Check.fine("elders of one born", x, x.elders(child), Check.set(0, 1, 2, 3, 4, 5));
        Check.fine("children of d", x, x.children(3), Check.set(4, child));
    }

    private static void nearness() {
        NineNames x = Check.with(TOWN);
        Check.refused("oneself", x, x.near(0, 0), 9);
        Check.refused("nobody", x, x.near(8, 8), 2);
        Check.fine("parent", x, x.near(2, 1), 1);
        Check.fine("child", x, x.near(1, 2), 1);
        Check.fine("of one parent", x, x.near(2, 3), 1);
        Check.fine("grandparent", x, x.near(4, 0), 0);
        Check.fine("parents of one child", x, x.near(0, 1), 0);
        Check.fine("strangers", x, x.near(6, 7), 0);
        x.die(1);
        Check.fine("of the dead", x, x.near(3, 2), 1);
    }

    private static void couldBeParents() {
        NineNames x = Check.with(TOWN);
        Check.refused("nobody", x, x.couldBe(8, 0, 1), 2);
        Check.refused("nobody, first", x, x.couldBe(4, 8, 1), 2);
        Check.refused("nobody, second", x, x.couldBe(4, 0, -1), 2);
        Check.fine("one bears it", x, x.couldBe(4, 0, 1), 1);
        Check.fine("the other bears it", x, x.couldBe(4, 1, 0), 1);
        Check.fine("none bears it", x, x.couldBe(4, 1, 2), 0);
        Check.fine("alike", x, x.couldBe(4, 0, 0), 0);
        Check.fine("himself", x, x.couldBe(4, 4, 0), 0);
        Check.fine("16 years", x, x.couldBe(5, 1, 0), 1);
        Check.fine("d by b and f, 11 years", x, x.couldBe(3, 1, 5), 0);
        Check.fine("f by a and h", x, x.couldBe(5, 0, 7), 1);
        Check.fine("d by f is too young", x, x.couldBe(3, 5, 0), 0);
        Check.fine("dash by one dash", x, x.couldBe(6, 0, 1), 0);
        Check.fine("dash by both", x, x.couldBe(6, 1, 7), 1);
        Check.fine("in how many: f", x, x.parents(5), 2);
        Check.fine("in how many: e", x, x.parents(4), 3 + 3 * 3);
        Check.fine("in how many: g", x, x.parents(6), 1);
        Check.fine("in how many: a", x, x.parents(0), 0);
        Check.refused("nobody", x, x.parents(8), 2);
        x.die(1);
        x.die(5);
        Check.fine("the dead with what they bore", x, x.parents(4), 12);
        Check.fine("the dead as dash", x, x.parents(6), 1);
        x.die(4);
        Check.fine("of the dead", x, x.parents(4), 12);
    }

    private static void roundAbout() {
        NineNames x = Check.with("person a born 1700;person b born 1700;person c born 1700;child a of b c;child b of a c;");
        Check.fine("among his own elders", x, x.elders(0), Check.set(0, 1, 2));
        Check.fine("and the other", x, x.elders(1), Check.set(0, 1, 2));
        Check.fine("near", x, x.near(0, 1), 1);
        Check.fine("kin", x, x.kin(0, 1), 1);
    }
}
