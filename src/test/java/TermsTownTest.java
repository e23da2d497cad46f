/** The second part of the Terms, sentence by sentence: places, the queue, years, and what is done. */
public final class TermsTownTest {
    private static final String FULL = "most 1;name s;name t;name u;person a born 1780 of s;person b born 1780 of t;"
            + "person c born 1780;person d born 1780;person e born 1780 of u;";

    public static void main(String[] args) {
        freePlaces();
        ages();
        queueInOrder();
        whateverHappens();
        nothingHappens();
        fromTheFirstOn();
        bearsItOtherwise();
        oneYear();
        deathsOfYears();
        lapses();
        eachYearByItself();
        deaths();
        abroad();
        births();
        namesOfTheBorn();
        nearness();
        whoCanBeWed();
        waysToWed();
        sales();
        salesThatCannotBe();
        swaps();
        duels();
        asking();
        Check.end();
    }

    private static void freePlaces() {
        Check.says("FREE PLACES of a SURNAME: MOST less all living who bear it (0 at least).");
        Rows.on("most 3;name s;name t;person a born 1780 of s;person b born 1780 of s;person c born 1780 of t;person d born 1780;",
                "surname(0,1) = 1", "surname(1,1) = 2", "rule(2) = true", "surname(0,1) = 0", "rule(1) = true", "surname(0,1) = 0",
                "surname(1,1) = 0", "die(0) = 3", "surname(0,1) = 0", "die(1) = 2", "surname(0,1) = 1", "rule(9) = true",
                "surname(0,1) = 9", "surname(1,1) = 8");
    }

    private static void ages() {
        Check.says("AGE: YEAR less BORN (of the dead: when they died).");
        Rows.on("year 1850;life 60;person a born 1800;person b born 1850;person c born 1791;", "person(0,1) = 50", "person(1,1) = 0",
                "year(1) = {2}", "person(2,1) = 60", "die(0) = 1", "year(5) = {}", "person(0,1) = 51", "person(2,1) = 60",
                "person(1,1) = 6");
    }

    private static void queueInOrder() {
        Check.says("QUEUE: who WAITS for which SURNAME, in order; each for one at most.");
        Rows.on(FULL + "waits d for s;waits c for s;waits a for t;", "waiting(0,0) = 3", "waiting(0,1) = 0", "waiting(1,0) = 2",
                "waiting(1,1) = 0", "waiting(2,0) = 0", "waiting(2,1) = 1", "ask(3,2) = 3", "many(7) = 3", "waiting(0,0) = 2",
                "waiting(1,0) = 0", "waiting(2,0) = 3", "waiting(2,1) = 2");
        Check.says("the first who WAITS for a SURNAME with a FREE PLACE, and is not ABROAD, bears it instead of what he had, "
                + "and WAITS no more;");
        Rows.on(FULL + "waits d for s;waits c for s;", "die(0) = 4", "person(3,2) = 0", "person(2,2) !8", "many(7) = 1",
                "waiting(0,0) = 2");
        // Who is ahead waits for another one.
        Rows.on(FULL + "waits d for t;waits c for s;", "die(0) = 4", "person(3,2) !8", "person(2,2) = 0", "many(7) = 1",
                "waiting(0,0) = 3");
        // Who is ahead is abroad, and stays first.
        Rows.on(FULL + "waits d for s;waits c for s;", "abroad(3,true) = true", "die(0) = 4", "person(2,2) = 0", "many(7) = 1",
                "die(2) = 3", "many(7) = 1", "person(3,2) !8", "surname(0,1) = 1", "abroad(3,false) = true", "person(3,2) = 0",
                "many(7) = 0");
        // He bears it instead of what he had, which falls free.
        Rows.on(FULL + "waits b for s;", "die(0) = 4", "person(1,2) = 0", "surname(1,1) = 1", "surname(0,1) = 0", "many(7) = 0");
        Rows.on("most 2;name s;person a born 1780;person b born 1780;person c born 1780;waits a for s;waits b for s;waits c for s;",
                "earn(0,1) = 1", "person(0,2) = 0", "person(1,2) = 0", "person(2,2) !8", "many(7) = 1");
    }

    private static void whateverHappens() {
        Check.says("Behind whatever happens (all below) it is gone through:");
        String town = "name s;name t;name u;person a born 1780 of s coins 50;person b born 1780 of t;person c born 1780;"
                + "person d born 1770 of s;person e born 1770;wed a b;waits c for u;waits e for t;";
        String[] done = {"year(1) = {}", "die(0) = 4", "birth(0,1) = 5", "wed(3,4,0) = true", "part(0,1) = true", "sell(1,0) = 10",
            "swap(0,1) = true", "duel(0,3) = 0", "abroad(0,true) = true", "ask(3,2) = 0", "leave(4) = true", "earn(0,1) = 51",
            "rule(8) = true", "wish(0,0,0) = true", "trade() = 0", "live(0) = 1"};
        for (String row : done) {
            Rows.on(town, "tray(0,0,0) = true", "centuries: year 1; = 1", "person(2,2) !8", row, "person(2,2) = 2", "many(7) = 0");
        }
        Rows.on(town, "abroad(4,true) = true", "many(7) = 1", "abroad(4,false) = true", "many(7) = 0", "person(4,2) = 1");
    }

    private static void nothingHappens() {
        Check.says("Behind whatever happens (all below) it is gone through:");
        String town = "name s;name t;name u;person a born 1780 of s coins 50;person b born 1780 of t;person c born 1780;"
                + "waits c for u;";
        String[] rows = {"year(0) !5", "die(9) !2", "birth(0,0) !9", "wed(0,0,0) !9", "part(0,1) !9", "sell(2,0) !9", "swap(0,0) !9",
            "duel(0,1) !9", "abroad(0,false) !9", "ask(2,2) !9", "leave(0) !9", "earn(0,0) !5", "rule(0) !5", "wish(0,1,0) !3",
            "mark() = 1", "tray(1,0,0) = true", "turn(2) = 1", "bearsIn(2,1) = 2", "recount(1) = 1", "mean(0,1) = true",
            "live(0) = 3"};
        for (String row : rows) {
            Rows.on(town, "centuries: swap a a;loop 2;end;when dash c;end; = 3", row, "person(2,2) !8", "many(7) = 1");
        }
    }

    private static void fromTheFirstOn() {
        Check.says("again from the first on, till there is none");
        // b's old name falls free behind him: the first who waits for it is ahead of b, not behind him.
        Rows.on(FULL + "waits c for t;waits b for s;waits d for t;", "die(0) = 4", "person(1,2) = 0", "person(2,2) = 1",
                "person(3,2) !8", "many(7) = 1", "waiting(0,0) = 3");
        // A chain against the queue's order, to its end.
        Rows.on(FULL + "waits c for u;waits e for t;waits b for s;", "die(0) = 4", "person(1,2) = 0", "person(4,2) = 1",
                "person(2,2) = 2", "many(7) = 0");
        // Two who wait for each other's name wait for ever.
        Rows.on(FULL + "waits a for t;waits b for s;", "year(9) = {}", "many(7) = 2", "person(0,2) = 0");
        StringBuilder twelve = new StringBuilder("name s;");
        for (char c = 'a'; c <= 'l'; c++) {
            twelve.append("person p").append(c).append(" born 1780;waits p").append(c).append(" for s;");
        }
        Rows.on(twelve.toString(), "year(1) = {}", "many(7) = 3", "surname(0,2) = {0,1,2,3,4,5,6,7,8}", "surname(0,1) = 0",
                "waiting(0,0) = 9", "waiting(2,0) = 11");
        // All twelve at once, and all twelve for nothing.
        Rows.on(twelve.toString().replace("name s;", "name s;name t;").replace("pj for s", "pj for t").replace("pk for s", "pk for t")
                .replace("pl for s", "pl for t"), "many(7) = 12", "rule(9) = true", "many(7) = 0", "surname(1,2) = {9,10,11}", "many(3) = {}");
        Rows.on("most 1;" + twelve.toString().replace("name s;", "name s;name t;").replace("pa born 1780;", "pa born 1780 of s;")
                .replace("pa for s", "pa for t").replace("pb born 1780;", "pb born 1780 of t;"), "many(7) = 12", "year(1) = {}", "many(7) = 12",
                "waiting(11,0) = 11", "surname(0,2) = {0}");
    }

    private static void bearsItOtherwise() {
        Check.says("(who bears it by then otherwise WAITS no more, too).");
        Rows.on(FULL + "waits a for t;waits c for t;", "swap(0,1) = true", "person(0,2) = 1", "many(7) = 1", "waiting(0,0) = 2");
        Rows.on(FULL.replace("person c born 1780;", "person c born 1780 coins 10;") + "waits c for s;", "sell(0,2) = 10",
                "person(2,2) = 0", "many(7) = 0");
        Rows.on("most 2;name s;name t;person a born 1780 of s;person b born 1780 of t;waits a for t;likes a t;likes b s;",
                "abroad(0,true) = true", "many(7) = 1", "trade() = 2", "person(0,2) = 1", "many(7) = 0");
        // Though he is abroad, and could not get it by the queue.
        Rows.on(FULL + "waits c for s;", "abroad(2,true) = true", "swap(2,0) = true", "person(2,2) = 0", "many(7) = 0");
        Rows.on("most 2;name s;name t;person a born 1780 of s;person b born 1780 of t;waits a for t;", "abroad(0,true) = true",
                "wed(0,1,1) = true", "person(0,2) = 1", "many(7) = 0");
        // Who bears another one otherwise waits yet.
        Rows.on(FULL + "waits a for u;", "swap(0,1) = true", "many(7) = 1", "waiting(0,1) = 2");
    }

    private static void oneYear() {
        Check.says("A YEAR (to 2,999): 1. it is 1 more.");
        Rows.on("year 2997;", "year(1) = {}", "many(4) = 2998", "year(2) !7", "many(4) = 2998", "year(1) = {}", "many(4) = 2999",
                "year(1) !7", "many(4) = 2999");
        Rows.on("year 2900;", "year(99) = {}", "many(4) = 2999");
        Rows.on("year 2901;", "year(99) !7", "many(4) = 2901", "year(98) = {}");
        Rows.on("year 1000;", "year(99) = {}", "many(4) = 1099");
    }

    private static void deathsOfYears() {
        Check.says("2. all who are not MISERS and whose AGE is LIFE or more DIE.");
        Rows.on("year 1900;life 50;person a born 1851;person b born 1852;person c born 1849;person d born 1800;person e born 1851 miser;"
                + "person f born 1000 miser;person g born 1850;", "many(2) = {0,1,2,3,4,5,6}", "year(1) = {0,2,3,6}",
                "many(2) = {1,4,5}", "year(1) = {1}", "year(99) = {}", "many(2) = {4,5}", "person(5,9) = 1", "person(4,1) = 150");
        Rows.on("year 1816;life 17;person a born 1800;person b born 1801;", "year(1) = {0}", "year(1) = {1}");
        Rows.on("year 1919;life 120;person a born 1800;person b born 1801;", "year(1) = {0}", "year(1) = {1}");
        Rows.on("person a born 1721;person b born 1722;", "year(1) = {0}", "year(1) = {1}");
    }

    private static void lapses() {
        Check.says("3. who is ABROAD for 7 YEARS or more is DASH. (Then the QUEUE.)");
        Rows.on("most 1;name s;name t;person a born 1780 of s;person b born 1780;person c born 1780 of t miser;waits b for s;",
                "abroad(0,true) = true", "abroad(2,true) = true", "year(6) = {}", "person(0,2) = 0", "person(1,2) !8", "year(1) = {}",
                "person(0,2) !8", "person(2,2) !8", "person(1,2) = 0", "many(7) = 0", "many(9) = {0,2}", "person(0,7) = 1800",
                // Abroad yet: what he gets lapses by the next year.
                "swap(0,1) = true", "person(0,2) = 0", "year(1) = {}", "person(0,2) !8", "person(1,2) !8", "surname(0,1) = 1");
        // Back in time, and abroad anew: it is counted anew.
        Rows.on("name s;person a born 1780 of s;", "abroad(0,true) = true", "year(6) = {}", "abroad(0,false) = true",
                "abroad(0,true) = true", "year(6) = {}", "person(0,2) = 0", "person(0,7) = 1806", "year(1) = {}", "person(0,2) !8");
        // He dies ahead of it, with what he bore.
        Rows.on("year 1800;life 27;name s;person a born 1780 of s;", "abroad(0,true) = true", "year(7) = {0}", "person(0,2) = 0",
                "person(0,7) !8", "many(9) = {}");
        Rows.on("year 1800;life 28;name s;person a born 1780 of s;", "abroad(0,true) = true", "year(8) = {0}", "person(0,2) !8");
        // The place of one who dies goes to who waits within that year.
        Rows.on("most 1;name s;person a born 1721 of s;person b born 1780;waits b for s;", "year(1) = {0}", "person(1,2) = 0");
        // Who is back is no more abroad, and gets what he waits for.
        Rows.on("most 1;name s;person a born 1721 of s;person b born 1780;waits b for s;", "abroad(1,true) = true", "year(1) = {0}",
                "person(1,2) !8", "abroad(1,false) = true", "person(1,2) = 0");
    }

    private static void eachYearByItself() {
        Check.says("3. who is ABROAD for 7 YEARS or more is DASH. (Then the QUEUE.)");
        // b has the name from a's death to his own, then it is c's.
        String town = "life 30;most 1;name s;person a born 1771 of s;person b born 1773;person c born 1790;waits b for s;waits c for s;";
        Rows.on(town, "year(1) = {0}", "person(1,2) = 0", "year(1) = {}", "year(1) = {1}", "person(2,2) = 0");
        Rows.on(town, "year(3) = {0,1}", "person(0,2) = 0", "person(1,2) = 0", "person(2,2) = 0", "many(7) = 0");
        // Who dies in the year in which the place falls free never gets it.
        Rows.on("life 30;most 1;name s;person a born 1771 of s;person b born 1771;person c born 1790;waits b for s;waits c for s;",
                "year(1) = {0,1}", "person(1,2) !8", "person(2,2) = 0");
    }

    private static void deaths() {
        Check.says("DIE: one is dead: bears his SURNAME no more among the living, WAITS no more, is not ABROAD, "
                + "who was WED to him is not WED any more.");
        Rows.on("most 1;name s;name t;person a born 1780 of s coins 5;person b born 1780;person c born 1780;wed a b;waits a for t;"
                + "waits c for s;likes a t;child c of a b;", "abroad(0,true) = true", "die(0) = 2", "surname(0,2) = {2}",
                "many(7) = 0", "many(9) = {}", "person(0,7) !8", "person(0,4) !8", "person(1,4) !8", "many(8) = {}", "many(2) = {1,2}",
                "person(0,9) = 0", "person(0,2) = 0", "person(0,3) = 5", "liked(0,0) = 1", "children(0) = {2}", "many(10) = 0",
                "many(3) = {1}", "surname(1,1) = 1", "year(1) = {}", "person(0,7) !8");
        // Others stay wed, waiting and abroad.
        Rows.on("most 1;name s;person a born 1780 of s;person b born 1780;person c born 1780;person d born 1780;wed a b;wed c d;"
                + "waits b for s;waits c for s;", "abroad(1,true) = true", "die(3) = 3", "many(8) = {0,1}", "many(7) = 2", "many(9) = {1}");
    }

    private static void abroad() {
        Check.says("ABROAD from this YEAR on, or back again.");
        Rows.on("name s;person a born 1780 of s;person b born 1780;", "year(3) = {}", "abroad(0,true) = true", "person(0,7) = 1803",
                "many(9) = {0}", "year(2) = {}", "person(0,7) = 1803", "abroad(0,false) = true", "person(0,7) !8", "many(9) = {}",
                "abroad(0,true) = true", "person(0,7) = 1805", "abroad(1,true) = true", "many(9) = {0,1}");
    }

    private static void births() {
        Check.says("BIRTH by two (living, AGE 16 or more, unlike; WED or not): a PERSON more, BORN now, CHILD of both, "
                + "without COINS, likes:");
        Rows.on("year 1816;name s;person a born 1800 of s coins 7;person b born 1801;person c born 1799;person d born 1790 miser;"
                + "wed a c;likes a s;child c of a b;", "birth(0,1) !9", "birth(1,0) !9", "birth(0,0) !9", "birth(0,2) = 4",
                "birth(2,3) = 5", "person(4,0) = 1816", "person(4,1) = 0", "person(4,3) = 0", "person(4,4) !8", "person(4,5) = 0",
                "person(4,6) = 2", "person(4,7) !8", "person(4,8) = 0", "person(4,9) = 1", "liked(4,0) !8", "person(5,5) = 2",
                "person(5,6) = 3", "person(5,8) = 0", "many(1) = 6", "die(3) = 5", "birth(3,0) !9", "birth(0,3) !9");
        // Who is near, or abroad, may have a child, too.
        Rows.on("person a born 1700;person b born 1750;person c born 1750;child b of a c;", "abroad(0,true) = true", "birth(0,1) = 3");
        // What another one was before a mark was gone back to is not left to the one born then.
        Rows.on("name s;person a born 1750 of s;person b born 1750;", "tray(0,0,1) = true", "mark() = 1", "birth(0,1) = 2",
                "wish(2,0,1) = true", "earn(2,9) = 9", "abroad(2,true) = true", "year(16) = {}", "wed(1,2,0) !9", "die(2) = 2",
                "back() = 0", "birth(1,0) = 2", "liked(2,0) !8", "person(2,3) = 0", "person(2,4) !8", "person(2,7) !8",
                "person(2,9) = 1", "person(2,0) = 1800", "person(2,5) = 1", "person(2,2) = 0");
    }

    private static void namesOfTheBorn() {
        Check.says("bears the first one's SURNAME if it has a FREE PLACE, else the second's, else DASH.");
        String town = "most 2;name s;name t;name u;person a born 1780 of s;person b born 1780 of t;person c born 1780;"
                + "person d born 1780;person e born 1780 of u;person f born 1780 of u;";
        Rows.on(town, "birth(0,1) = 6", "person(6,2) = 0");
        Rows.on(town, "birth(1,0) = 6", "person(6,2) = 1");
        Rows.on(town, "birth(4,0) = 6", "person(6,2) = 0");
        Rows.on(town, "birth(0,4) = 6", "person(6,2) = 0");
        Rows.on(town, "birth(2,0) = 6", "person(6,2) = 0");
        Rows.on(town, "birth(0,2) = 6", "person(6,2) = 0");
        Rows.on(town, "birth(4,2) = 6", "person(6,2) !8");
        Rows.on(town, "birth(2,4) = 6", "person(6,2) !8");
        Rows.on(town, "birth(4,5) = 6", "person(6,2) !8");
        Rows.on(town, "birth(2,3) = 6", "person(6,2) !8");
        Rows.on(town, "birth(0,1) = 6", "birth(0,1) = 7", "person(7,2) = 1", "birth(0,1) = 8", "person(8,2) !8");
    }

    private static void nearness() {
        Check.says("NEAR: one is CHILD of the other, or both are CHILD of a PERSON.");
        Rows.on("person a born 1700;person b born 1700;person c born 1750;person d born 1750;person e born 1750;person f born 1780;"
                + "person g born 1780;child c of a b;child d of b e;child f of c e;child g of d a;", "near(0,2) = 1", "near(2,0) = 1",
                "near(1,2) = 1", "near(2,3) = 1", "near(3,2) = 1", "near(0,1) = 0", "near(0,5) = 0", "near(5,0) = 0", "near(5,6) = 0",
                "near(2,6) = 1", "near(3,5) = 1", "near(4,0) = 0", "near(2,4) = 0", "near(2,5) = 1");
        // The second of one and the first of the other.
        Rows.on("person a born 1700;person b born 1700;person c born 1700;person d born 1750;person e born 1750;person f born 1750;"
                + "child d of a b;child e of b c;child f of c a;", "near(3,4) = 1", "near(4,5) = 1", "near(5,3) = 1", "die(0) = 5",
                "near(5,3) = 1");
    }

    private static void whoCanBeWed() {
        Check.says("WED can be two who live, are of AGE 16 or more, unlike, not WED, not NEAR;");
        String town = "year 1816;name s;person a born 1800;person b born 1801;person c born 1780;person d born 1780;person e born 1780;"
                + "person f born 1780;person g born 1750;wed e f;child c of d g;";
        Rows.on(town, "canWed(0,2,0) = 1", "canWed(2,0,0) = 1", "canWed(0,1,0) = 0", "canWed(1,0,0) = 0", "canWed(0,0,0) = 0",
                "canWed(0,4,0) = 0", "canWed(4,0,0) = 0", "canWed(4,5,0) = 0", "canWed(2,3,0) = 0", "canWed(3,2,0) = 0",
                "canWed(3,6,0) = 1", "wed(0,1,0) !9", "wed(1,0,0) !9", "wed(0,0,0) !9", "wed(0,4,0) !9", "wed(5,0,0) !9",
                "wed(4,5,0) !9", "wed(2,3,0) !9", "wed(6,2,0) !9", "wed(3,6,0) = true", "wed(0,2,0) = true", "wed(0,2,0) !9");
        Rows.on(town, "die(0) = 6", "canWed(0,2,0) = 0", "canWed(2,0,0) = 0", "wed(0,2,0) !9", "wed(2,0,0) !9", "die(4) = 5",
                "wed(5,3,0) = true");
        Rows.on(town, "year(1) = {}", "wed(0,1,0) = true", "person(0,4) = 1", "person(1,4) = 0");
        // Who is abroad can be wed; who was wed once can be again.
        Rows.on(town, "abroad(0,true) = true", "part(4,5) = true", "wed(4,0,0) = true", "wed(5,2,0) = true");
    }

    private static void waysToWed() {
        Check.says("way 0: both keep what they bear; way 1: the first bears the second's SURNAME from now on, "
                + "way 2: the second the first's (it can't be if that is DASH, or has no FREE PLACE; who bears it keeps it).");
        String town = "most 2;name s;name t;name u;person a born 1780 of s;person b born 1780 of t;person c born 1780;person d born 1780 of u;"
                + "person e born 1780 of u;person f born 1780;";
        Rows.on(town, "wed(0,1,0) = true", "person(0,2) = 0", "person(1,2) = 1");
        Rows.on(town, "wed(0,1,1) = true", "person(0,2) = 1", "person(1,2) = 1", "surname(0,1) = 2", "surname(1,1) = 0");
        Rows.on(town, "wed(0,1,2) = true", "person(0,2) = 0", "person(1,2) = 0");
        Rows.on(town, "wed(2,5,0) = true", "person(2,2) !8", "person(5,2) !8");
        Rows.on(town, "wed(0,2,1) !9", "wed(2,0,2) !9", "wed(2,5,1) !9", "wed(2,5,2) !9", "wed(0,2,2) = true", "person(2,2) = 0");
        Rows.on(town, "wed(2,0,1) = true", "person(2,2) = 0", "person(0,2) = 0");
        Rows.on(town, "wed(0,3,1) !9", "wed(3,0,2) !9", "wed(0,3,2) = true", "person(3,2) = 0", "person(0,2) = 0");
        Rows.on(town, "wed(3,4,1) = true", "person(3,2) = 2", "person(4,2) = 2");
        Rows.on(town, "wed(3,4,2) = true", "person(3,2) = 2", "person(4,2) = 2", "surname(2,1) = 0");
        Rows.on(town, "rule(1) = true", "wed(0,1,1) !9", "wed(0,1,2) !9", "wed(3,4,1) = true", "wed(0,1,0) = true");
        // The place that falls free goes to who waits.
        Rows.on("most 1;name s;name t;name u;person a born 1780 of s;person b born 1780 of t;person c born 1780;waits c for s;",
                "rule(1) = true", "wed(0,1,1) !9", "die(1) = 2", "person(2,2) !8", "swap(0,2) = true", "person(2,2) = 0", "many(7) = 0");
    }

    private static void sales() {
        Check.says("SELL: one who lives and bears a SURNAME sells it to another one who lives and does not bear it, for its WORTH: "
                + "COINS go over (9,999 at most), the buyer bears it, the seller is DASH.");
        String town = "most 1;name s worth 30;name t worth 0;person a born 1780 of s coins 1;person b born 1780 coins 30;"
                + "person c born 1780 of t coins 29;person d born 1800;person e born 1780;waits e for t;";
        Rows.on(town, "sell(0,1) = 30", "person(0,3) = 31", "person(1,3) = 0", "person(1,2) = 0", "person(0,2) !8",
                "surname(0,3) = 1800", "surname(1,3) !8");
        Rows.on(town, "sell(2,0) = 0", "person(0,2) = 1", "person(2,2) !8", "person(0,3) = 1", "person(2,3) = 29", "surname(0,1) = 1",
                "surname(1,3) = 1800");
        // A child, and one who is abroad, may buy and sell; a full name can be sold.
        Rows.on(town, "sell(2,3) = 0", "person(3,2) = 1", "abroad(1,true) = true", "sell(0,1) = 30", "person(1,2) = 0", "year(9) = {}",
                "person(1,2) !8");
        Rows.on(town, "abroad(0,true) = true", "sell(0,1) = 30", "person(0,3) = 31");
        // What the buyer had goes to who waits.
        Rows.on(town, "earn(2,1) = 30", "sell(0,2) = 30", "person(2,2) = 0", "person(4,2) = 1", "many(7) = 0");
        String rich = "name s worth 99;person a born 1780 of s coins 999;person b born 1780 coins 100;";
        String[] rows = {"earn(0,999) = 1998", "earn(0,999) = 2997", "earn(0,999) = 3996", "earn(0,999) = 4995", "earn(0,999) = 5994",
            "earn(0,999) = 6993", "earn(0,999) = 7992", "earn(0,999) = 8991", "earn(0,909) = 9900", "sell(0,1) = 99",
            "person(0,3) = 9999", "person(1,3) = 1", "many(10) = 10000"};
        Rows.on(rich, rows);
        rows[8] = "earn(0,910) = 9901";
        Rows.on(rich, rows);
    }

    private static void salesThatCannotBe() {
        Check.says("It can't be with fewer COINS, or if that SURNAME was SOLD less than 9 YEARS ago.");
        String town = "name s worth 30;name t worth 1;person a born 1780 of s;person b born 1780 coins 99;person c born 1780 of t coins 29;"
                + "person d born 1780 of s coins 99;person e born 1780 coins 99;";
        Rows.on(town, "sell(0,2) !9", "sell(1,0) !9", "sell(0,3) !9", "sell(0,0) !9", "sell(2,0) !9", "sell(0,1) = 30", "sell(3,4) !9",
                "sell(1,4) !9", "sell(2,4) = 1", "year(8) = {}", "sell(3,4) !9", "sell(4,2) !9", "year(1) = {}", "sell(3,4) = 30",
                "surname(0,3) = 1809", "sell(1,3) !9", "year(9) = {}", "sell(1,3) = 30");
        Rows.on(town, "die(0) = 4", "sell(0,1) !9", "die(1) = 3", "sell(3,1) !9", "surname(0,3) !8");
    }

    private static void swaps() {
        Check.says("SWAP: two who live bear each what the other bore (DASH, too); it can't be if that is alike.");
        String town = "most 1;name s;name t;person a born 1780 of s;person b born 1780 of t;person c born 1780;person d born 1799;";
        Rows.on(town, "swap(0,1) = true", "person(0,2) = 1", "person(1,2) = 0", "swap(0,2) = true", "person(0,2) !8", "person(2,2) = 1",
                "swap(3,2) = true", "person(3,2) = 1", "person(2,2) !8", "swap(0,2) !9", "swap(0,0) !9", "swap(1,1) !9");
        Rows.on("name s;person a born 1780 of s;person b born 1780 of s;person c born 1780;", "swap(0,1) !9", "die(0) = 2",
                "swap(0,2) !9", "swap(2,0) !9");
    }

    private static void duels() {
        Check.says("DUEL: of two who live and bear the same SURNAME the younger (BORN later; else of the greater number) is DASH.");
        String town = "most 4;name s;name t;person a born 1790 of s;person b born 1780 of s;person c born 1780 of s;person d born 1800 of t;"
                + "person e born 1780;person f born 1780;waits e for s;person g born 1779 of s;";
        Rows.on(town, "duel(0,1) = 0", "person(0,2) !8", "person(1,2) = 0", "person(4,2) = 0", "many(7) = 0");
        Rows.on(town, "duel(1,0) = 0", "person(0,2) !8", "person(1,2) = 0");
        Rows.on(town, "duel(1,2) = 2", "person(2,2) !8");
        Rows.on(town, "duel(2,1) = 2", "person(1,2) = 0");
        Rows.on(town, "duel(6,1) = 1", "person(6,2) = 0");
        Rows.on(town, "duel(0,3) !9", "duel(4,5) !9", "duel(0,4) !9", "duel(4,0) !9", "duel(0,0) !9", "die(1) = 6", "duel(1,2) !9",
                "duel(2,1) !9", "duel(1,1) !9");
        // The loser who waits for it himself gets it again.
        Rows.on("most 2;name s;name t;person a born 1780 of s;person b born 1790 of s;person c born 1780;waits c for s;",
                "abroad(2,true) = true", "duel(0,1) = 1", "ask(1,0) = 1", "person(1,2) = 0", "many(7) = 1");
    }

    private static void asking() {
        Check.says("ASK: one who lives WAITS for a SURNAME (instead of another one, at the end of the QUEUE).");
        Rows.on(FULL, "ask(2,0) = 1", "ask(3,1) = 2", "ask(0,1) = 3", "waiting(0,0) = 2", "ask(2,1) = 3", "waiting(0,0) = 3",
                "waiting(1,0) = 0", "waiting(2,0) = 2", "waiting(2,1) = 1", "ask(3,1) !9", "ask(0,0) !9", "die(4) = 4", "ask(4,0) !9",
                "ask(2,2) = 2", "person(2,2) = 2", "waiting(0,0) = 3", "waiting(1,0) = 0");
        // Who is abroad may ask, and waits.
        Rows.on("name s;person a born 1780;", "abroad(0,true) = true", "ask(0,0) = 1", "abroad(0,false) = true", "person(0,2) = 0");
    }
}
