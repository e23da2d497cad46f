/** Promises 33 to 62, each by its own words: what comes, weddings, rings, kin, worth, centuries, marks. */
public final class PromisesAskedTest {
    private static final String TOWN = "year 1850;most 2;life 90;name s worth 30;name t;name u worth 0;person a born 1790 of s coins 40;"
            + "person b born 1800 of s;person c born 1820 of t coins 35;person d born 1835;person e born 1834 miser;wed a b;likes c u s;"
            + "waits d for s;child c of b a;";

    public static void main(String[] args) {
        promise33();
        promise34();
        promises35To37();
        promise38();
        promise39();
        promises40And41();
        promises42And43();
        promises44And45();
        promises46And47();
        promise48();
        promises49And50();
        promise51();
        promises52And53();
        promises54And55();
        promise56();
        promise57();
        promise58();
        promise59();
        promise60();
        promises61And62();
        Check.end();
    }

    private static void promise33() {
        Check.says("TURN (2; 8: he does not WAIT, or not in 150 YEARS).");
        Rows.on(TOWN, "turn(5) !2", "turn(-1) !2", "turn(0) !8", "turn(3) = 30", "die(0) = 4", "turn(3) !8", "die(3) = 3", "turn(3) !8");
        Rows.on("life 120;most 1;name s;person a born 1700 of s miser;person b born 1800;waits b for s;", "turn(1) !8", "abroad(0,true) = true",
                "turn(1) = 7");
        Rows.on("year 1919;life 120;most 1;name s;person a born 1919 of s;person b born 1800 miser;waits b for s;", "turn(1) = 120");
    }

    private static void promise34() {
        Check.says("GONE (2; 8: not in 150 YEARS).");
        Rows.on(TOWN, "gone(3) !2", "gone(-1) !2", "gone(0) = 75", "gone(1) = 60", "gone(2) = 0", "ask(4,2) = 1", "gone(2) !8");
        Rows.on("life 120;name s;person a born 1800 of s;", "gone(0) = 120", "birth(0,0) !9", "year(1) = {}", "gone(0) = 119");
    }

    private static void promises35To37() {
        Check.says("Who lives in so many YEARS (0 to 150): a set (5).");
        Rows.on(TOWN, "livingIn(0) = {0,1,2,3,4}", "livingIn(29) = {0,1,2,3,4}", "livingIn(30) = {1,2,3,4}", "livingIn(150) = {4}",
                "livingIn(151) !5", "livingIn(-1) !5", "livingIn(2147483647) !5", "livingIn(-2147483648) !5", "die(4) = 4",
                "livingIn(0) = {0,1,2,3}", "livingIn(150) = {}");
        Check.says("What a PERSON bears in so many YEARS (0 to 150) (2; 5; 8: dead, DASH).");
        Rows.on(TOWN, "bearsIn(0,0) = 0", "bearsIn(0,29) = 0", "bearsIn(0,30) !8", "bearsIn(3,29) !8", "bearsIn(3,30) = 0", "bearsIn(4,150) !8",
                "bearsIn(0,151) !5", "bearsIn(0,-1) !5", "bearsIn(5,0) !2", "bearsIn(-1,151) !2", "ask(4,2) = 1", "bearsIn(4,150) = 2",
                "die(0) = 4", "bearsIn(0,0) !8");
        Check.says("How many live as DASH in so many YEARS (0 to 150) (5).");
        Rows.on(TOWN, "dashesIn(0) = 2", "dashesIn(29) = 2", "dashesIn(30) = 1", "dashesIn(150) = 1", "dashesIn(151) !5", "dashesIn(-1) !5",
                "abroad(2,true) = true", "dashesIn(6) = 2", "dashesIn(7) = 3");
        Rows.on(Check.people(12, ""), "dashesIn(0) = 12", "dashesIn(1) = 0", "livingIn(0) = 4095");
    }

    private static void promise38() {
        Check.says("The FRACTION is LUCK of k (0 to 12) by so many sixteenths (0 to 16) (2; 5).");
        Rows.on(TOWN, "luck(3,0,0) !2", "luck(-1,13,17) !2", "luck(0,-1,0) !5", "luck(0,13,0) !5", "luck(0,0,-1) !5", "luck(0,0,17) !5", "top() = 0",
                "bottom() = 1", "luck(0,2,16) = true", "top() = 1", "bottom() = 1", "luck(0,2,15) = true", "top() = 225", "bottom() = 256",
                "luck(0,1,1) = true", "top() = 31", "bottom() = 256", "luck(0,1,13) = true", "top() = 247", "bottom() = 256",
                "luck(0,12,16) = true", "top() = 0", "bottom() = 1", "luck(2,0,0) = true", "top() = 1", "bottom() = 1");
    }

    private static void promise39() {
        Check.says("1 if two can be WED by a way, else 0 (2; 5).");
        Rows.on(TOWN, "canWed(5,0,0) !2", "canWed(0,5,9) !2", "canWed(2,4,3) !5", "canWed(2,4,-1) !5", "canWed(2,2,3) !5", "canWed(2,4,0) = 1",
                "canWed(2,4,1) = 0", "canWed(2,4,2) = 1", "canWed(4,2,1) = 1", "canWed(4,2,2) = 0", "canWed(2,2,0) = 0", "canWed(2,3,0) = 0",
                "canWed(0,4,0) = 0", "canWed(0,2,0) = 0", "year(1) = {}", "canWed(2,3,0) = 1", "rule(1) = true", "canWed(4,2,1) = 0",
                "die(4) = 4", "canWed(2,4,0) = 0");
    }

    private static void promises40And41() {
        Check.says("COUPLES: how many.");
        Rows.on(TOWN, "couples() = 1", "part(0,1) = true", "couples() = 2", "year(1) = {}", "couples() = 2", "die(1) = 4", "couples() = 2",
                "die(2) = 3", "couples() = 1", "die(0) = 2", "die(3) = 1", "couples() = 0");
        Check.says("COUPLES OF a SURNAME: how many (2).");
        Rows.on(TOWN, "couplesOf(3) !2", "couplesOf(-1) !2", "couplesOf(0) = 0", "couplesOf(1) = 1", "couplesOf(2) = 0", "part(0,1) = true",
                "couplesOf(0) = 1", "year(1) = {}", "couplesOf(0) = 2", "die(0) = 4", "couplesOf(0) = 2", "couplesOf(1) = 1");
        Rows.on("name s;name t;" + Check.people(12, ""), "couples() = 6", "couplesOf(1) = 0", "ask(0,0) = 0", "ask(5,0) = 0", "ask(11,0) = 0",
                "couplesOf(0) = 3", "couplesOf(1) = 0");
    }

    private static void promises42And43() {
        Check.says("MATCH (2; 8: none).");
        Rows.on(TOWN, "match(5) !2", "match(-1) !2", "match(0) !8", "match(2) !8", "match(3) !8", "match(4) = 2", "part(0,1) = true",
                "match(4) = 2", "match(0) = 1", "match(1) = 0", "rule(3) = true", "match(4) = 2", "die(3) = 4", "match(4) = 0", "die(0) = 3",
                "match(0) !8", "match(4) = 1");
        Check.says("The set of PERSONS whom one can WED by way 0 (2).");
        Rows.on(TOWN, "suitors(5) !2", "suitors(-1) !2", "suitors(0) = {}", "suitors(2) = {4}", "suitors(3) = {}", "suitors(4) = {2}",
                "year(1) = {}", "suitors(4) = {2,3}", "part(0,1) = true", "suitors(4) = {0,1,2,3}", "suitors(0) = {1,3,4}");
        Rows.on(Check.people(12, ""), "suitors(11) = {0,1,2,3,4,5,6,7,8,9,10}", "match(0) !8");
    }

    private static void promises44And45() {
        Check.says("What a PERSON gets by RINGS (2; 8: he takes no part).");
        Rows.on(TOWN, "ringed(5) !2", "ringed(-1) !2", "ringed(3) !8", "ringed(0) = 0", "ringed(2) = 1", "die(0) = 4", "ringed(0) !8",
                "ringed(3) = 0", "tray(0,0,3) = true", "write(0,0,1) = true", "wish(1,0,1) = true", "ringed(1) = 1", "ringed(2) = 0",
                "person(1,2) = 0");
        Check.says("How many RINGS of two PERSONS and more there are.");
        Rows.on(TOWN, "rings() = 0", "tray(0,0,3) = true", "write(0,0,1) = true", "wish(0,0,1) = true", "rings() = 1", "wish(1,0,1) = true",
                "rings() = 1", "die(2) = 4", "rings() = 0");
    }

    private static void promises46And47() {
        Check.says("All get what RINGS give them: how many bear another SURNAME then.");
        Rows.on(TOWN, "trade() = 0", "tray(0,0,1) = true", "write(0,0,1) = true", "wish(1,0,1) = true", "trade() = 2", "person(1,2) = 1",
                "person(2,2) = 0", "person(0,2) = 0", "trade() = 0", "many(7) = 1");
        Rows.on("", "trade() = 0");
        Check.says("How many of those who take part bear what they LIKE most, or like nothing.");
        Rows.on(TOWN, "content() = 2", "tray(0,0,2) = true", "write(0,1,1) = true", "wish(0,0,2) = true", "content() = 2", "wish(3,0,1) = true",
                "wish(4,0,0) = true", "content() = 2", "write(0,0,1) = true", "wish(1,0,1) = true", "content() = 1", "wish(2,0,1) = true",
                "content() = 2", "die(0) = 4", "person(3,2) = 0", "content() = 2", "die(2) = 3", "content() = 1");
    }

    private static void promise48() {
        Check.says("KIN: steps (0: one and itself) (2; 8: none).");
        Rows.on(TOWN, "kin(5,5) !2", "kin(-1,-1) !2", "kin(0,5) !2", "kin(0,0) = 0", "kin(0,1) = 2", "kin(2,0) = 1", "kin(1,2) = 1", "kin(0,3) !8",
                "kin(3,4) !8", "birth(2,4) = 5", "kin(5,0) = 2", "kin(4,0) = 3", "kin(0,4) = 3", "die(2) = 5", "kin(0,4) = 3", "die(5) = 4",
                "kin(5,5) = 0", "kin(4,1) = 3");
    }

    private static void promises49And50() {
        Check.says("The set of CHILDREN of a PERSON (2).");
        Rows.on(TOWN, "children(5) !2", "children(-1) !2", "children(0) = {2}", "children(1) = {2}", "children(2) = {}", "birth(4,1) = 5",
                "birth(1,2) = 6", "children(1) = {2,5,6}", "children(4) = {5}", "die(2) = 6", "children(1) = {2,5,6}", "die(1) = 5",
                "children(1) = {2,5,6}");
        Check.says("The set of those from whom a PERSON comes: parents, theirs, and so on (2).");
        Rows.on(TOWN, "elders(5) !2", "elders(-1) !2", "elders(0) = {}", "elders(2) = {0,1}", "birth(2,4) = 5", "elders(5) = {0,1,2,4}", "year(16) = {}",
                "birth(5,3) = 6", "elders(6) = {0,1,2,3,4,5}", "die(0) = 6", "elders(6) = {0,1,2,3,4,5}");
        StringBuilder chain = new StringBuilder(Check.people(12, ""));
        for (char c = 'l'; c > 'b'; c--) {
            chain.append("child p").append(c).append(" of p").append((char) (c - 1)).append(" p").append((char) (c - 2)).append(';');
        }
        Rows.on(chain.toString(), "elders(11) = {0,1,2,3,4,5,6,7,8,9,10}", "elders(2) = {0,1}", "children(0) = {2}");
        StringBuilder line = new StringBuilder(Check.people(12, ""));
        for (char c = 'c'; c <= 'l'; c++) {
            line.append("child p").append(c).append(" of p").append((char) (c - 1)).append(" pa;");
        }
        Rows.on(line.toString(), "elders(11) = {0,1,2,3,4,5,6,7,8,9,10}", "elders(3) = {0,1,2}", "children(0) = {2,3,4,5,6,7,8,9,10,11}");
        chain.append("child pa of pl pk;");
        Rows.on(chain.toString(), "elders(11) = 4095", "elders(0) = 4095", "elders(1) = {}");
    }

    private static void promise51() {
        Check.says("1 if two are NEAR, else 0 (2; 9: one and itself).");
        Rows.on(TOWN, "near(5,5) !2", "near(0,5) !2", "near(-1,0) !2", "near(0,0) !9", "near(0,1) = 0", "near(0,2) = 1", "near(2,1) = 1", "near(2,3) = 0",
                "birth(0,4) = 5", "near(5,2) = 1", "near(5,1) = 0", "near(4,5) = 1", "birth(4,2) = 6", "near(6,0) = 0", "near(6,5) = 1");
    }

    private static void promises52And53() {
        Check.says("COULD BE: in how many couples (2).");
        Rows.on(TOWN, "parents(5) !2", "parents(-1) !2", "parents(0) = 0", "parents(2) = 0", "parents(4) = 0", "birth(0,1) = 5", "person(5,2) !8",
                "parents(5) = 0", "die(1) = 5", "birth(0,2) = 6", "person(6,2) = 1", "parents(6) = 3", "die(2) = 5", "parents(6) = 3");
        Check.says("1 if two COULD BE parents of a PERSON, else 0 (2).");
        Rows.on(TOWN, "couldBe(5,0,1) !2", "couldBe(0,5,1) !2", "couldBe(0,1,5) !2", "couldBe(0,-1,1) !2", "couldBe(2,0,1) = 0", "couldBe(0,0,0) = 0",
                "swap(0,2) = true", "couldBe(2,0,1) = 1", "couldBe(2,1,0) = 1", "couldBe(2,1,1) = 0", "couldBe(2,2,1) = 0");
    }

    private static void promises54And55() {
        Check.says("COINS, and the WORTH of what he bears, together (2; 9: dead).");
        Rows.on(TOWN, "wealth(5) !2", "wealth(-1) !2", "wealth(0) = 70", "wealth(1) = 30", "wealth(2) = 45", "wealth(3) = 0", "die(0) = 4", "wealth(0) !9",
                "wealth(3) = 30", "ask(2,2) = 0", "wealth(2) = 35");
        Check.says("Who of the living has the most WORTH and COINS together, of several the first (8: nobody lives).");
        Rows.on("", "richest() !8");
        Rows.on(TOWN, "richest() = 0", "earn(2,25) = 60", "richest() = 0", "earn(2,1) = 61", "richest() = 2", "die(2) = 4", "richest() = 0",
                "die(0) = 3", "richest() = 1", "die(1) = 2", "die(3) = 1", "richest() = 4", "die(4) = 0", "richest() !8");
        Rows.on("person a born 1700;person b born 1700;", "richest() = 0", "die(0) = 1", "richest() = 1");
        Rows.on("name s;name t;" + Check.people(12, " coins 9"), "richest() = 0", "earn(11,1) = 10", "richest() = 11", "wealth(11) = 10");
        // One who was rich once, in a town that was gone back from, is nobody now.
        Rows.on("person a born 1700;person b born 1700 coins 1;", "mark() = 1", "birth(0,1) = 2", "earn(2,9) = 9", "richest() = 2", "back() = 0",
                "richest() = 1");
    }

    private static void promise56() {
        Check.says("The set of those who could buy a SURNAME now, from somebody (2).");
        Rows.on(TOWN, "buyers(3) !2", "buyers(-1) !2", "buyers(0) = {2}", "buyers(1) = {0}", "buyers(2) = {}", "earn(3,29) = 29", "buyers(0) = {2}",
                "earn(3,1) = 30", "buyers(0) = {2,3}", "buyers(1) = {0,3}", "ask(4,2) = 1", "buyers(2) = {0,1,2,3}", "sell(0,2) = 30",
                "buyers(0) = {}", "year(8) = {}", "buyers(0) = {}", "year(1) = {}", "buyers(0) = {0,3}", "die(3) = 4", "buyers(0) = {0}", "die(1) = 3",
                "buyers(0) = {0}", "die(2) = 2", "buyers(0) = {}");
    }

    private static void promise57() {
        Check.says("RECOUNT by a MOST (1 to 9): how many are DASH (5).");
        Rows.on("name s;name t;" + Check.people(12, ""), "ask(0,0) = 0", "ask(1,0) = 0", "ask(2,0) = 0", "ask(3,0) = 0", "ask(4,0) = 0", "ask(5,0) = 0",
                "ask(6,1) = 0", "ask(7,1) = 0", "ask(8,1) = 0", "ask(9,1) = 0", "ask(10,1) = 0", "ask(11,1) = 0", "recount(9) = 0",
                "recount(6) = 0", "recount(5) = 2", "recount(1) = 10", "earn(11,10) = 10", "buyers(0) = {11}", "buyers(1) = {}",
                "earn(0,10) = 10", "buyers(1) = {0}");
        Rows.on(TOWN, "recount(0) !5", "recount(10) !5", "recount(-1) !5", "recount(2147483647) !5", "recount(1) = 3", "recount(2) = 2",
                "recount(9) = 2", "surname(0,2) = {0,1}", "many(5) = 2", "many(7) = 1", "die(0) = 4", "recount(1) = 2", "die(3) = 3",
                "recount(1) = 1");
    }

    private static void promise58() {
        Check.says("LIVED: how many STEPS were done (5; 8: no CENTURIES).");
        Rows.on(TOWN, "live(-1) !5", "live(10000) !5", "live(2147483647) !5", "live(0) !8", "live(9999) !8", "centuries: year 1;die a;die a;stop;any; = 5",
                "live(10000) !5", "many(4) = 1850", "live(9999) = 4", "many(4) = 1851", "town: name z; = 0", "live(0) !8", "centuries(0) = 0",
                "live(0) = 0", "centuries: any; = 1", "live(0) = 1");
    }

    private static void promise59() {
        Check.says("Of live() latest with STATUS 0, what 0: MISSED, 1: YEARS, 2: births, 3: deaths, 4: 1 if a STEP was left to be done, else 0 "
                + "(5; 8: there was none).");
        Rows.on(TOWN, "lived(0) !8", "lived(4) !8", "lived(5) !5", "lived(-1) !5", "live(0) !8", "lived(0) !8",
                "centuries: year 20;year 10;birth b e;die e;die e;any;birth b b; = 7", "lived(0) !8", "mean(3,2) = true", "lived(0) !8", "live(0) = 7",
                "lived(0) = 2", "lived(1) = 30", "lived(2) = 1", "lived(3) = 3", "lived(4) = 0", "live(10000) !5", "lived(1) = 30",
                "mean(3,2) = true", "lived(1) = 30", "mark() = 1", "centuries: loop 99;loop 99;year 1;end;end; = 3", "lived(1) = 30",
                "live(0) = 300", "lived(4) = 1", "lived(1) = 296", "back() = 0", "lived(4) = 1", "lived(1) = 296", "town: name z; = 0",
                "lived(4) = 1", "live(0) !8", "lived(4) = 1", "lived(5) !5");
    }

    private static void promise60() {
        Check.says("The FRACTION is the mean of how many live as DASH behind the CENTURIES, by so many seeds (1 to 20) from one on "
                + "(all stays as it is) (5: the last above 9,999, too; 8).");
        Rows.on(TOWN, "mean(0,0) !5", "mean(0,21) !5", "mean(-1,1) !5", "mean(10000,1) !5", "mean(9999,2) !5", "mean(9981,20) !5",
                "mean(2147483647,20) !5", "mean(0,2147483647) !5", "mean(0,-2147483648) !5", "mean(0,1) !8", "centuries: die d; = 1",
                "mean(9980,20) = true", "top() = 1", "bottom() = 1", "mean(9999,1) = true", "many(2) = {0,1,2,3,4}", "mean(10000,1) !5",
                "top() = 1", "bottom() = 1");
        // By 10 seeds from 0 on the draws by 2 are 0, 0, 1, 0, 0, 1, 0, 0, 1, 1: by 0 the one dies who is no dash.
        Rows.on("name s;person a born 1780 of s;person b born 1780;", "centuries: any; = 1", "mean(0,1) = true", "top() = 1", "mean(2,1) = true",
                "top() = 0", "bottom() = 1", "mean(0,4) = true", "top() = 3", "bottom() = 4", "mean(0,10) = true", "top() = 3", "bottom() = 5",
                "many(2) = {0,1}");
        Rows.on("person a born 1780;person b born 1780;person c born 1780;", "centuries: any;any;any; = 3", "mean(7,20) = true", "top() = 0",
                "bottom() = 1", "many(2) = {0,1,2}", "live(7) = 3", "mean(7,20) = true", "top() = 0");
    }

    private static void promises61And62() {
        Check.says("A MARK more: how many there are (7).");
        Rows.on(TOWN, "mark() = 1", "mark() = 2", "mark() = 3", "mark() !7", "mark() !7", "back() = 2", "mark() = 3", "mark() !7");
        Check.says("All is taken back to the latest MARK: how many there are left (8).");
        Rows.on(TOWN, "back() !8", "mark() = 1", "die(0) = 4", "mark() = 2", "die(1) = 3", "back() = 1", "many(2) = {1,2,3,4}", "back() = 0",
                "many(2) = {0,1,2,3,4}", "back() !8", "many(2) = {0,1,2,3,4}");
        // All of twelve is kept, to the last one's likes and name.
        Rows.on("name s;name t;" + Check.people(12, "") + "likes pl t s;waits pl for t;", "centuries: die pl; = 1", "mark() = 1", "town: name z; = 0",
                "back() = 0", "liked(11,0) = 1", "liked(11,1) = 0", "waiting(0,0) = 11", "centuries: die pl;die pg; = 2", "live(0) = 2",
                "many(2) = {0,1,2,3,4,5,7,8,9,10}", "lived(0) = 0");
        // A mark outlives a town, and is not gone with it.
        Rows.on(TOWN, "mark() = 1", "town: name z; = 0", "many(1) = 0", "back() = 0", "many(1) = 5", "waiting(0,0) = 3", "person(2,5) = 1");
    }
}
