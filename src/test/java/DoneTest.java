/** Promises 19 to 32: what is done, and the queue behind it. */
public final class DoneTest {
    private static final String NAMES = "name smith worth 30;name jones;name lee worth 5;";

    public static void main(String[] args) {
        years();
        lapses();
        lastYears();
        deaths();
        births();
        birthsBeyond();
        weddings();
        weddingNames();
        partings();
        sales();
        richSellers();
        swaps();
        duels();
        goingAbroad();
        asking();
        leaving();
        earning();
        ruling();
        wishing();
        theQueue();
        everythingGoesThroughTheQueue();
        Check.end();
    }

    private static void bears(NineNames x, int p, int want) {
        Check.due("what " + p + " bears", x.person(p, 2), want);
    }

    private static void years() {
        NineNames x = Check.with("life 20;" + NAMES + "person a born 1782 of smith;person b born 1785;"
                + "person c born 1781 miser;person d born 1770;person e born 1800;wed a b;");
        Check.refused("0 years", x, x.year(0), 5);
        Check.refused("100 years", x, x.year(100), 5);
        Check.refused("-1 years", x, x.year(-1), 5);
        Check.fine("the old die in the next year", x, x.year(1), Check.set(3));
        Check.fine("it is 1801", x, x.many(4), 1801);
        Check.fine("of age 20", x, x.year(1), Check.set(0));
        Check.refused("the widow", x, x.person(1, 4), 8);
        Check.fine("age at death", x, x.person(0, 1), 20);
        Check.fine("at the same age", x, x.year(3), Check.set(1));
        Check.fine("till the last but misers", x, x.year(99), Check.set(4));
        Check.fine("the miser lives", x, x.many(2), Check.set(2));
        Check.fine("how old he is", x, x.person(2, 1), 1904 - 1781);
    }

    private static void lapses() {
        NineNames x = Check.with(NAMES + "person a born 1780 of smith;person b born 1780 of smith;"
                + "person c born 1780;waits c for smith;");
        x.rule(2);
        x.abroad(0, true);
        x.year(6);
        bears(x, 0, 0);
        Check.fine("still waits", x, x.many(7), 1);
        x.year(1);
        bears(x, 0, -1);
        bears(x, 2, 0);
        Check.fine("is abroad yet", x, x.person(0, 7), 1800);
        x.swap(0, 1);
        bears(x, 0, 0);
        x.year(1);
        bears(x, 0, -1);
        x.abroad(0, false);
        x.swap(0, 2);
        x.year(9);
        bears(x, 0, 0);
    }

    private static void lastYears() {
        NineNames x = Check.with("year 2990;life 17;name s;person a born 2990 of s;person b born 2982;");
        Check.refused("beyond 2999", x, x.year(10), 7);
        Check.fine("nothing happened", x, x.many(4), 2990);
        Check.fine("to 2999", x, x.year(9), Check.set(1));
        Check.fine("it is 2999", x, x.many(4), 2999);
        Check.refused("not one more", x, x.year(1), 7);
        Check.refused("a wrong number comes first", x, x.year(100), 5);
        Check.fine("but a forecast goes on", x, x.livingIn(8), 0);
        Check.fine("as it should", x, x.livingIn(7), 1);
    }

    private static void deaths() {
        NineNames x = Check.with("most 1;" + NAMES + "person a born 1750 of smith coins 7;person b born 1760;"
                + "person c born 1770 miser;wed a b;waits b for smith;waits a for lee;");
        Check.refused("nobody", x, x.die(3), 2);
        Check.refused("below", x, x.die(-1), 2);
        x.abroad(0, true);
        Check.fine("die", x, x.die(0), 2);
        Check.refused("twice", x, x.die(0), 9);
        Check.fine("abroad no more", x, x.many(9), 0);
        Check.fine("wed no more", x, x.many(8), 0);
        Check.refused("not even he", x, x.person(0, 4), 8);
        Check.fine("waits no more", x, x.many(7), 0);
        bears(x, 1, 0);
        bears(x, 0, 0);
        Check.fine("his coins", x, x.person(0, 3), 7);
        Check.fine("a miser by a blow", x, x.die(2), 1);
        Check.fine("the last", x, x.die(1), 0);
    }

    private static void births() {
        NineNames x = Check.with("year 1816;most 2;" + NAMES + "person a born 1800 of smith;person b born 1801 of lee;"
                + "person c born 1790 of jones;person d born 1800 of smith;person e born 1780;");
        Check.refused("nobody", x, x.birth(0, 5), 2);
        Check.refused("by one alone", x, x.birth(0, 0), 9);
        Check.refused("of age 15", x, x.birth(0, 1), 9);
        Check.refused("of age 15, the first", x, x.birth(1, 0), 9);
        Check.fine("the first's name has no place", x, x.birth(0, 2), 5);
        bears(x, 5, 1);
        Check.fine("of no name, then none free", x, x.birth(4, 3), 6);
        bears(x, 6, -1);
        Check.fine("born now", x, x.person(6, 0), 1816);
        Check.fine("first parent", x, x.person(6, 5), 4);
        Check.fine("second parent", x, x.person(6, 6), 3);
        Check.fine("no coins", x, x.person(6, 3), 0);
        Check.fine("no miser", x, x.person(6, 8), 0);
        Check.refused("no likes", x, x.liked(6, 0), 8);
        x.year(1);
        Check.fine("of age 16 now; the first's", x, x.birth(1, 0), 7);
        bears(x, 7, 2);
        x.die(0);
        Check.refused("by the dead", x, x.birth(0, 1), 9);
        Check.fine("the dead one's place is free", x, x.birth(3, 2), 8);
        bears(x, 8, 0);
    }

    private static void birthsBeyond() {
        StringBuilder text = new StringBuilder("name s;");
        for (char c = 'a'; c <= 'k'; c++) {
            text.append("person p").append(c).append(" born 1780;");
        }
        NineNames x = Check.with(text.toString());
        Check.fine("the twelfth", x, x.birth(0, 1), 11);
        Check.refused("a 13th", x, x.birth(0, 1), 7);
        Check.refused("what can't be comes first", x, x.birth(0, 11), 9);
        x.die(11);
        Check.refused("the dead count", x, x.birth(0, 1), 7);
        Check.fine("still twelve", x, x.many(1), 12);
    }

    private static void weddings() {
        NineNames x = Check.with("year 1816;" + NAMES + "person a born 1780;person b born 1780;person c born 1800;"
                + "person d born 1800;person e born 1801;person f born 1750;child c of a b;child d of f b;");
        Check.refused("nobody", x, x.wed(0, 6, 9), 2);
        Check.refused("way 3", x, x.wed(0, 0, 3), 5);
        Check.refused("way -1", x, x.wed(0, 1, -1), 5);
        Check.refused("one alone", x, x.wed(0, 0, 0), 9);
        Check.refused("parent", x, x.wed(2, 0, 0), 9);
        Check.refused("child", x, x.wed(1, 2, 0), 9);
        Check.refused("of one parent", x, x.wed(2, 3, 0), 9);
        Check.refused("of age 15", x, x.wed(0, 4, 0), 9);
        Check.fine("of age 16", x, x.wed(0, 3, 0));
        Check.fine("to whom", x, x.person(3, 4), 0);
        Check.refused("who is wed", x, x.wed(0, 1, 0), 9);
        Check.refused("who is wed, as second", x, x.wed(1, 3, 0), 9);
        x.die(3);
        x.die(5);
        Check.refused("to the dead", x, x.wed(0, 3, 0), 9);
        Check.fine("a widow", x, x.wed(0, 1, 0));
    }

    private static void weddingNames() {
        NineNames x = Check.with("most 2;" + NAMES + "person a born 1780 of smith;person b born 1780 of smith;"
                + "person c born 1780 of jones;person d born 1780;person e born 1780 of lee;waits d for jones;"
                + "person f born 1770 of jones;");
        Check.refused("to dash", x, x.wed(0, 3, 1), 9);
        Check.refused("from dash", x, x.wed(3, 0, 2), 9);
        Check.refused("no free place, way 1", x, x.wed(2, 0, 1), 9);
        Check.refused("no free place, way 2", x, x.wed(0, 2, 2), 9);
        x.mark();
        Check.fine("who bears it keeps it", x, x.wed(0, 1, 1));
        bears(x, 0, 0);
        x.back();
        x.mark();
        Check.fine("way 1", x, x.wed(2, 4, 1));
        bears(x, 2, 2);
        bears(x, 4, 2);
        bears(x, 3, 1);
        x.back();
        Check.fine("way 2", x, x.wed(4, 2, 2));
        bears(x, 2, 2);
        bears(x, 4, 2);
    }

    private static void partings() {
        NineNames x = Check.with("person a born 1780;person b born 1780;person c born 1780;wed a b;");
        Check.refused("nobody", x, x.part(0, 3), 2);
        Check.refused("not each other", x, x.part(0, 2), 9);
        Check.refused("unwed", x, x.part(2, 2), 9);
        Check.refused("of oneself", x, x.part(0, 0), 9);
        Check.fine("part", x, x.part(1, 0));
        Check.fine("nobody is wed", x, x.many(8), 0);
        Check.refused("again", x, x.part(0, 1), 9);
    }

    private static void sales() {
        NineNames x = Check.with("most 2;" + NAMES + "person a born 1780 of smith;person b born 1780 of jones coins 65;"
                + "person c born 1780 coins 29;person d born 1780 of smith;waits c for jones;person e born 1770 of jones;");
        Check.refused("nobody", x, x.sell(0, -1), 2);
        Check.refused("dash", x, x.sell(2, 0), 9);
        Check.refused("who bears it", x, x.sell(0, 3), 9);
        Check.refused("to oneself", x, x.sell(0, 0), 9);
        Check.refused("one coin too few", x, x.sell(0, 2), 9);
        Check.fine("sell", x, x.sell(0, 1), 30);
        Check.fine("the buyer's coins", x, x.person(1, 3), 35);
        Check.fine("the seller's coins", x, x.person(0, 3), 30);
        bears(x, 0, -1);
        bears(x, 1, 0);
        bears(x, 2, 1);
        Check.fine("sold when", x, x.surname(0, 3), 1800);
        x.year(8);
        Check.refused("8 years ago", x, x.sell(3, 0), 9);
        x.year(1);
        Check.fine("9 years ago", x, x.sell(3, 0), 30);
        Check.fine("sold when", x, x.surname(0, 3), 1809);
        x.die(4);
        Check.refused("the dead", x, x.sell(4, 3), 9);
        Check.refused("to the dead", x, x.sell(1, 4), 9);
    }

    private static void richSellers() {
        NineNames x = Check.with("name s worth 99;name t worth 0;person a born 1780 of s coins 999;"
                + "person b born 1780 of t coins 99;");
        for (int k = 0; k < 8; k++) {
            x.earn(0, 999);
        }
        x.earn(0, 1000 - 1 - 91);
        Check.fine("all but enough", x, x.person(0, 3), 9 * 999 + 908);
        Check.fine("for nothing", x, x.sell(1, 0), 0);
        bears(x, 0, 1);
        NineNames y = Check.with("name s worth 99;person a born 1780 of s coins 999;person b born 1780 coins 99;");
        for (int k = 0; k < 9; k++) {
            y.earn(0, 999);
        }
        Check.fine("9990 coins", y, y.person(0, 3), 9990);
        Check.fine("sell", y, y.sell(0, 1), 99);
        Check.fine("9999 at most", y, y.person(0, 3), 9999);
        Check.fine("the buyer paid all", y, y.person(1, 3), 0);
    }

    private static void swaps() {
        NineNames x = Check.with(NAMES + "person a born 1780 of smith;person b born 1780 of jones;person c born 1780;"
                + "person d born 1780;person e born 1780 of smith;");
        Check.refused("nobody", x, x.swap(5, 0), 2);
        Check.refused("both dash", x, x.swap(2, 3), 9);
        Check.refused("both smith", x, x.swap(0, 4), 9);
        Check.refused("oneself", x, x.swap(0, 0), 9);
        Check.fine("swap", x, x.swap(0, 1));
        bears(x, 0, 1);
        bears(x, 1, 0);
        Check.fine("with dash", x, x.swap(2, 0));
        bears(x, 0, -1);
        bears(x, 2, 1);
        x.die(0);
        Check.refused("with the dead", x, x.swap(0, 1), 9);
        Check.refused("of the dead", x, x.swap(1, 0), 9);
    }

    private static void duels() {
        NineNames x = Check.with("most 3;" + NAMES + "person a born 1780 of smith;person b born 1781 of smith;"
                + "person c born 1780 of smith;person d born 1780;person e born 1780;person f born 1780 of lee;"
                + "person g born 1799 of lee;waits d for smith;");
        Check.refused("nobody", x, x.duel(0, 7), 2);
        Check.refused("unlike names", x, x.duel(0, 5), 9);
        Check.refused("both dash", x, x.duel(3, 4), 9);
        Check.refused("oneself", x, x.duel(0, 0), 9);
        Check.fine("the younger", x, x.duel(1, 0), 1);
        bears(x, 1, -1);
        bears(x, 3, 0);
        Check.fine("of the greater number", x, x.duel(2, 0), 2);
        Check.fine("children, too", x, x.duel(5, 6), 6);
        x.die(3);
        Check.refused("with the dead", x, x.duel(0, 3), 9);
    }

    private static void goingAbroad() {
        NineNames x = Check.with("person a born 1780;person b born 1780;");
        Check.refused("nobody", x, x.abroad(2, true), 2);
        Check.refused("is here", x, x.abroad(0, false), 9);
        Check.fine("abroad", x, x.abroad(0, true));
        Check.refused("is abroad", x, x.abroad(0, true), 9);
        x.year(3);
        Check.fine("since when", x, x.person(0, 7), 1800);
        Check.fine("back", x, x.abroad(0, false));
        Check.fine("nobody is", x, x.many(9), 0);
        Check.fine("abroad again", x, x.abroad(0, true));
        Check.fine("since then", x, x.person(0, 7), 1803);
        x.die(1);
        Check.refused("the dead", x, x.abroad(1, true), 9);
        Check.refused("the dead, back", x, x.abroad(1, false), 9);
    }

    private static void asking() {
        NineNames x = Check.with("most 1;" + NAMES + "person a born 1780 of smith;person b born 1780 of jones;"
                + "person c born 1780;person d born 1780;");
        Check.refused("nobody", x, x.ask(4, 0), 2);
        Check.refused("no surname", x, x.ask(0, 3), 2);
        Check.refused("he bears it", x, x.ask(0, 0), 9);
        Check.fine("first", x, x.ask(2, 0), 1);
        Check.refused("he waits for it", x, x.ask(2, 0), 9);
        Check.fine("second", x, x.ask(3, 0), 2);
        Check.fine("for another, at the end", x, x.ask(2, 1), 2);
        Check.fine("who is first now", x, x.waiting(0, 0), 3);
        Check.fine("for smith", x, x.waiting(0, 1), 0);
        Check.fine("who is second", x, x.waiting(1, 0), 2);
        Check.fine("for jones", x, x.waiting(1, 1), 1);
        Check.fine("one with a place", x, x.ask(0, 2), 1);
        bears(x, 0, 2);
        bears(x, 3, 0);
        bears(x, 2, -1);
    }

    private static void leaving() {
        NineNames x = Check.with("most 1;" + NAMES + "person a born 1780 of smith;person b born 1780;person c born 1780;"
                + "waits b for smith;waits c for smith;");
        Check.refused("nobody", x, x.leave(3), 2);
        Check.refused("he does not", x, x.leave(0), 9);
        Check.fine("leave", x, x.leave(1));
        Check.refused("again", x, x.leave(1), 9);
        Check.fine("the other is first", x, x.waiting(0, 0), 2);
        x.die(2);
        Check.refused("the dead", x, x.leave(2), 9);
    }

    private static void earning() {
        NineNames x = Check.with("person a born 1780 coins 999;person b born 1780;");
        Check.refused("nobody", x, x.earn(2, 0), 2);
        Check.refused("0", x, x.earn(0, 0), 5);
        Check.refused("1000", x, x.earn(0, 1000), 5);
        for (int k = 2; k <= 10; k++) {
            Check.fine("999 more", x, x.earn(0, 999), 999 * k);
        }
        Check.refused("above 9999", x, x.earn(0, 10), 9);
        Check.fine("9999", x, x.earn(0, 9), 9999);
        Check.refused("one above", x, x.earn(0, 1), 9);
        Check.fine("1", x, x.earn(1, 1), 1);
        x.die(1);
        Check.refused("the dead", x, x.earn(1, 1), 9);
        Check.refused("a wrong number comes first", x, x.earn(1, -1), 5);
    }

    private static void ruling() {
        NineNames x = Check.with("most 2;" + NAMES + "person a born 1780 of smith;person b born 1780 of smith;"
                + "person c born 1780;person d born 1780;waits c for smith;waits d for smith;");
        Check.refused("0", x, x.rule(0), 5);
        Check.refused("10", x, x.rule(10), 5);
        Check.fine("1", x, x.rule(1));
        bears(x, 1, 0);
        Check.fine("free is 0 at least", x, x.surname(0, 1), 0);
        x.die(0);
        Check.fine("nobody moves up", x, x.many(7), 2);
        Check.fine("2", x, x.rule(2));
        bears(x, 2, 0);
        Check.fine("one waits yet", x, x.many(7), 1);
        Check.fine("9", x, x.rule(9));
        Check.fine("nobody waits", x, x.many(7), 0);
    }

    private static void wishing() {
        NineNames x = Check.with(NAMES + "person a born 1780 of smith;person b born 1780;likes a lee;");
        Check.refused("no tray ahead of nobody", x, x.wish(9, 4, 1), 1);
        Check.refused("nobody ahead of missing", x, x.wish(9, 0, 1), 2);
        Check.refused("missing", x, x.wish(0, 0, 0), 3);
        x.tray(0, 2, 8);
        x.write(0, 0, 2);
        x.write(0, 1, 0);
        x.write(0, 2, 2);
        x.write(0, 3, 3);
        Check.refused("too few numbers", x, x.wish(0, 0, 9), 4);
        Check.refused("7", x, x.wish(0, 0, 7), 5);
        Check.refused("-1", x, x.wish(0, 0, -1), 5);
        Check.refused("one twice", x, x.wish(0, 0, 3), 5);
        Check.fine("as before", x, x.liked(0, 0), 2);
        Check.refused("as before", x, x.liked(0, 1), 8);
        Check.fine("two", x, x.wish(0, 0, 2));
        Check.fine("lee", x, x.liked(0, 0), 2);
        Check.fine("smith", x, x.liked(0, 1), 0);
        x.write(0, 1, 3);
        Check.refused("no surname", x, x.wish(0, 0, 2), 5);
        x.write(0, 1, -1);
        Check.refused("no surname below", x, x.wish(0, 0, 2), 5);
        x.tray(1, 3, 2);
        x.write(1, 0, 1L << 32);
        Check.refused("far beyond", x, x.wish(0, 1, 1), 5);
        Check.fine("none", x, x.wish(0, 0, 0));
        Check.refused("likes nothing", x, x.liked(0, 0), 8);
        x.tray(2, 0, 1);
        Check.fine("all that a tray has", x, x.wish(0, 2, 1));
        NineNames y = Check.with("name a;name b;name c;name d;name e;name f;person p born 1700;person q born 1700;");
        y.tray(0, 0, 6);
        for (int k = 0; k < 6; k++) {
            y.write(0, k, 5 - k);
        }
        Check.fine("six", y, y.wish(0, 0, 6));
        Check.fine("the sixth", y, y.liked(0, 5), 0);
        Check.refused("no other one's", y, y.liked(1, 0), 8);
        x.die(1);
        Check.fine("the dead may wish", x, x.wish(1, 0, 1));
        Check.fine("lee", x, x.liked(1, 0), 2);
    }

    private static void theQueue() {
        NineNames x = Check.with("most 1;" + NAMES + "person a born 1780 of smith;person b born 1780 of jones;"
                + "person c born 1780 of lee;person d born 1780;waits a for jones;waits b for lee;waits d for smith;");
        x.mark();
        x.die(2);
        bears(x, 0, 1);
        bears(x, 1, 2);
        bears(x, 3, 0);
        Check.fine("all in one go", x, x.many(7), 0);
        x.back();
        x.abroad(1, true);
        x.die(2);
        bears(x, 1, 1);
        Check.fine("who is abroad is passed by", x, x.many(7), 3);
        x.abroad(1, false);
        bears(x, 1, 2);
        Check.fine("but keeps waiting", x, x.many(7), 0);
        NineNames y = Check.with("most 1;" + NAMES + "person a born 1780 of smith;person b born 1780 of jones;"
                + "person c born 1780;waits c for smith;waits b for smith;waits a for jones;");
        y.swap(0, 1);
        Check.fine("who bears it otherwise waits no more", y, y.many(7), 1);
        Check.fine("the other waits", y, y.waiting(0, 0), 2);
        NineNames z = Check.with("most 1;" + NAMES + "person a born 1780 of smith;person b born 1780 of jones;"
                + "person c born 1780;waits c for jones;waits a for lee;");
        z.abroad(1, true);
        z.swap(1, 2);
        Check.fine("the first of several", z, z.many(7), 0);
        bears(z, 0, 2);
        bears(z, 1, -1);
    }

    /** A queue as told is not gone through before something happens. */
    private static void everythingGoesThroughTheQueue() {
        String text = NAMES + "person a born 1780 of smith coins 50;person b born 1780 of jones;person c born 1780;"
                + "person d born 1770 of smith;person e born 1770;wed a b;waits c for lee;waits d for jones;";
        for (int way = 0; way < 15; way++) {
            NineNames x = Check.with(text);
            x.tray(0, 0, 1);
            bears(x, 2, -1);
            Check.due("refused", x.die(9), -1);
            bears(x, 2, -1);
            act(x, way);
            Check.due("done", x.status(), 0);
            bears(x, 2, 2);
        }
    }

    private static void act(NineNames x, int way) {
        switch (way) {
            case 0: x.year(1); break;
            case 1: x.die(0); break;
            case 2: x.birth(0, 1); break;
            case 3: x.wed(3, 4, 0); break;
            case 4: x.part(0, 1); break;
            case 5: x.sell(1, 0); break;
            case 6: x.swap(0, 1); break;
            case 7: x.duel(0, 3); break;
            case 8: x.abroad(0, true); break;
            case 9: x.ask(0, 1); break;
            case 10: x.leave(3); break;
            case 11: x.earn(0, 1); break;
            case 12: x.rule(8); break;
            case 13: x.wish(0, 0, 0); break;
            default: x.trade(); break;
        }
    }
}
