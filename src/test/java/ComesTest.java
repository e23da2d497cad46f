/** Promises 33 to 38: what comes. */
public final class ComesTest {
    private static final String TOWN = "most 1;life 50;name smith;name jones;name lee;"
            + "person a born 1760 of smith;person b born 1770 of jones;person c born 1790 of lee miser;"
            + "person d born 1795;person e born 1755;waits d for smith;waits e for jones;";

    public static void main(String[] args) {
        turns();
        turnsFarOff();
        goings();
        states();
        beyondTheLastYear();
        luck();
        luckOfMany();
        Check.end();
    }

    private static void turns() {
        NineNames x = Check.with(TOWN);
        Check.fine("d when a dies", x, x.turn(3), 10);
        Check.refused("e dies first", x, x.turn(4), 8);
        Check.refused("a does not wait", x, x.turn(0), 8);
        Check.refused("nobody", x, x.turn(5), 2);
        Check.refused("below", x, x.turn(-1), 2);
        Check.fine("nothing changed", x, x.many(4), 1800);
        Check.fine("they wait yet", x, x.many(7), 2);
        x.ask(3, 2);
        Check.refused("never", x, x.turn(3), 8);
        x.ask(3, 0);
        x.abroad(3, true);
        Check.refused("who is abroad gets none", x, x.turn(3), 8);
        x.abroad(3, false);
        x.abroad(0, true);
        Check.fine("a's name lapses", x, x.turn(3), 7);
        NineNames y = Check.with("name s;person a born 1799;waits a for s;");
        Check.fine("a place is free now", y, y.turn(0), 1);
    }

    private static void turnsFarOff() {
        String text = "life 120;most 1;name s;person a born 1800 of s;person b born 1800 miser;waits b for s;";
        NineNames x = Check.with(text);
        Check.fine("120 years", x, x.turn(1), 120);
        Check.fine("gone, for b takes it", x, x.bearsIn(1, 150), 0);
        // Who is born later, heirs of heirs, may take more than 150 years.
        NineNames y = Check.with("life 120;most 1;name s;person a born 1800 of s;person b born 1800 miser;"
                + "person c born 1800;waits c for s;waits b for s;");
        y.year(70);
        int d = y.birth(0, 1);
        y.leave(1);
        y.leave(2);
        y.ask(d, 0);
        y.ask(1, 0);
        Check.fine("b behind d, in 50 years and 70 more", y, y.turn(1), 120);
        Check.fine("d", y, y.turn(d), 50);
        y.year(70 - 30);
        Check.fine("closer", y, y.turn(1), 80);
    }

    private static void goings() {
        NineNames x = Check.with(TOWN);
        Check.fine("smith, by d till 45", x, x.gone(0), 45);
        Check.fine("jones", x, x.gone(1), 20);
        Check.refused("lee by a miser", x, x.gone(2), 8);
        Check.refused("no such", x, x.gone(3), 2);
        x.die(1);
        bears(x, 4, 1);
        Check.fine("jones by e", x, x.gone(1), 5);
        x.die(4);
        Check.fine("now", x, x.gone(1), 0);
        NineNames y = Check.with("life 120;year 1800;name s;person a born 1800 of s;name t;");
        Check.fine("in 120", y, y.gone(0), 120);
        Check.fine("nobody bears it", y, y.gone(1), 0);
    }

    private static void bears(NineNames x, int p, int want) {
        Check.due("what " + p + " bears", x.person(p, 2), want);
    }

    private static void states() {
        NineNames x = Check.with(TOWN);
        Check.fine("now", x, x.livingIn(0), Check.set(0, 1, 2, 3, 4));
        Check.fine("in 5", x, x.livingIn(5), Check.set(0, 1, 2, 3));
        Check.fine("in 150", x, x.livingIn(150), Check.set(2));
        Check.refused("in 151", x, x.livingIn(151), 5);
        Check.refused("in -1", x, x.livingIn(-1), 5);
        Check.fine("dashes now", x, x.dashesIn(0), 2);
        Check.fine("dashes in 5", x, x.dashesIn(5), 1);
        Check.fine("dashes in 10", x, x.dashesIn(10), 0);
        Check.fine("dashes in 150", x, x.dashesIn(150), 0);
        Check.refused("dashes in 151", x, x.dashesIn(151), 5);
        Check.refused("dashes in -1", x, x.dashesIn(-1), 5);
        Check.refused("d is dash", x, x.bearsIn(3, 9), 8);
        Check.fine("d bears", x, x.bearsIn(3, 10), 0);
        Check.refused("d is dead", x, x.bearsIn(3, 45), 8);
        Check.fine("a now", x, x.bearsIn(0, 0), 0);
        Check.fine("c in 150", x, x.bearsIn(2, 150), 2);
        Check.refused("nobody", x, x.bearsIn(5, 999), 2);
        Check.refused("c in 151", x, x.bearsIn(2, 151), 5);
        Check.refused("c in -1", x, x.bearsIn(2, -1), 5);
        x.die(0);
        Check.refused("the dead", x, x.bearsIn(0, 0), 8);
    }

    private static void beyondTheLastYear() {
        NineNames x = Check.with("year 2999;life 30;most 1;name s;person a born 2980 of s;person b born 2995;waits b for s;");
        Check.fine("in 3010", x, x.turn(1), 11);
        Check.fine("in 3025", x, x.gone(0), 26);
        Check.fine("nobody", x, x.livingIn(150), 0);
    }

    private static void luck() {
        NineNames x = Check.with("name s;name t;person a born 1780 of s;person b born 1780 of s;person c born 1780 of s miser;"
                + "person d born 1780 of s;");
        x.die(3);
        Check.refused("no such", x, x.luck(2, 99, 99), 2);
        Check.refused("13", x, x.luck(0, 13, 0), 5);
        Check.refused("-1", x, x.luck(0, -1, 0), 5);
        Check.fine("12 of 3", x, x.luck(0, 12, 16));
        Check.refused("17 sixteenths", x, x.luck(0, 0, 17), 5);
        Check.refused("-1 sixteenths", x, x.luck(0, 0, -1), 5);
        Check.fraction("as at first", x, 0, 1);
        Check.fine("1 of 3", x, x.luck(0, 1, 4));
        Check.fraction("1 of 3", x, 37, 64);
        Check.fine("2 of 3", x, x.luck(0, 2, 4));
        Check.fraction("2 of 3", x, 5, 32);
        Check.fine("3 of 3", x, x.luck(0, 3, 15));
        Check.fraction("3 of 3", x, 3375, 4096);
        Check.fine("4 of 3", x, x.luck(0, 4, 15));
        Check.fraction("4 of 3", x, 0, 1);
        Check.fine("none or more", x, x.luck(0, 0, 5));
        Check.fraction("none or more", x, 1, 1);
        Check.fine("surely", x, x.luck(0, 3, 16));
        Check.fraction("surely", x, 1, 1);
        Check.fine("never", x, x.luck(0, 1, 0));
        Check.fraction("never", x, 0, 1);
        Check.fine("0 of nobody", x, x.luck(1, 0, 0));
        Check.fraction("0 of nobody", x, 1, 1);
        Check.fine("1 of nobody", x, x.luck(1, 1, 16));
        Check.fraction("1 of nobody", x, 0, 1);
    }

    private static void luckOfMany() {
        StringBuilder text = new StringBuilder("name s;");
        for (char c = 'a'; c <= 'i'; c++) {
            text.append("person p").append(c).append(" born 1780 of s;");
        }
        NineNames x = Check.with(text.toString());
        Check.fine("9 of 9", x, x.luck(0, 9, 15));
        Check.fraction("9 of 9", x, 38443359375L, 68719476736L);
        Check.fine("8 of 9", x, x.luck(0, 8, 15));
        // 15^9 + 9 * 15^8
        Check.fraction("8 of 9", x, 7688671875L, 8589934592L);
        x.tray(0, 0, 1);
        Check.fraction("told till another one is", x, 7688671875L, 8589934592L);
        Check.refused("a wrong one", x, x.luck(0, 9, 17), 5);
        Check.fraction("told till another one is", x, 7688671875L, 8589934592L);
    }
}
