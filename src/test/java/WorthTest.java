/** Promises 54 to 57: worth. */
public final class WorthTest {
    public static void main(String[] args) {
        wealth();
        buyers();
        recount();
        Check.end();
    }

    private static void wealth() {
        NineNames x = Check.with("name s worth 30;name t worth 99;person a born 1780 coins 50;"
                + "person b born 1780 of s coins 20;person c born 1780 of t;");
        Check.fine("dash", x, x.wealth(0), 50);
        Check.fine("both together", x, x.wealth(1), 50);
        Check.fine("a name alone", x, x.wealth(2), 99);
        Check.refused("nobody", x, x.wealth(3), 2);
        Check.fine("richest", x, x.richest(), 2);
        x.die(2);
        Check.refused("the dead", x, x.wealth(2), 9);
        Check.fine("of several the first", x, x.richest(), 0);
        x.earn(1, 1);
        Check.fine("now the other", x, x.richest(), 1);
        x.die(0);
        x.die(1);
        Check.refused("nobody lives", x, x.richest(), 8);
    }

    private static void buyers() {
        NineNames x = Check.with("name s worth 30;name t;name u worth 0;person a born 1780 of s coins 50;"
                + "person b born 1780 of t coins 30;person c born 1780 coins 29;person d born 1799 coins 99;"
                + "person e born 1780 coins 99;");
        x.die(4);
        Check.fine("of s", x, x.buyers(0), Check.set(1, 3));
        Check.fine("of t", x, x.buyers(1), Check.set(0, 2, 3));
        Check.fine("of u nobody sells", x, x.buyers(2), 0);
        Check.refused("no such", x, x.buyers(3), 2);
        x.sell(0, 1);
        Check.fine("sold now", x, x.buyers(0), 0);
        x.year(9);
        Check.fine("nine years on", x, x.buyers(0), Check.set(0, 3));
    }

    private static void recount() {
        NineNames x = Check.with("name s;name t;person a born 1780 of s;person b born 1770 of s;person c born 1770 of s;"
                + "person d born 1760 of t;person e born 1790;person f born 1700 of t;likes a t;likes b s t;likes e t s;");
        Check.refused("0", x, x.recount(0), 5);
        Check.refused("10", x, x.recount(10), 5);
        // f t, d none, b s, c none, a none (t is full), e none
        Check.fine("by 1", x, x.recount(1), 4);
        // f t, d t, b s, c s, a none, e none
        Check.fine("by 2", x, x.recount(2), 2);
        // a s, e t
        Check.fine("by 3", x, x.recount(3), 0);
        Check.refused("e is dash yet", x, x.person(4, 2), 8);
        Check.fine("most stays", x, x.many(5), 9);
        x.die(5);
        // d t, b s, c none, a none, e none
        Check.fine("without f by 1", x, x.recount(1), 3);
        x.die(3);
        // b s, c none, a t, e none
        Check.fine("without d by 1", x, x.recount(1), 2);
        NineNames y = Check.with("name s;name t;person a born 1780 of s;person b born 1780 of s;likes b t;");
        Check.fine("of the same year by number", y, y.recount(1), 0);
        NineNames z = Check.with("name s;name t;person a born 1781 of s;person b born 1780 of s;likes b t;");
        Check.fine("by the year first", z, z.recount(1), 1);
        Check.fine("of nobody", new NineNames(), new NineNames().recount(9), 0);
    }
}
