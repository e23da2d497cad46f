/** The fourth part of the Terms, sentence by sentence: centuries, their faults and steps, draws, marks, fractions. */
public final class TermsCenturiesTest {
    private static final String TOWN = "name s;name t worth 7;person ann born 1750 of s;person bob born 1760 of t;"
            + "person cid born 1770;person dot born 1790 coins 7 miser;";

    public static void main(String[] args) {
        length();
        steps();
        tests();
        faults12();
        faults34();
        faults67();
        yearsAndWeddings();
        any();
        missed();
        missedByPeople();
        whens();
        loops();
        threeHundred();
        lived();
        draws();
        marks();
        fractions();
        Check.end();
    }

    private static void fault(int kind, String marked) {
        Check.centuriesFault(kind, TOWN, marked);
    }

    private static void taken(String text, int steps) {
        Rows.on(TOWN, "centuries: " + text + " = " + steps, "fault(0) = 0", "fault(1) = -1");
    }

    private static void length() {
        Check.says("CENTURIES are a TEXT of at most 300 bytes, of such TOKENS (none at first).");
        Rows.on(TOWN, "live(0) !8", "mean(0,1) !8");
        NineNames x = Check.with(TOWN);
        Check.feed(x, " ".repeat(295) + "stop; ");
        Check.refused("301 bytes", x, x.centuries(301), 5);
        Check.fine("300 bytes", x, x.centuries(300), 1);
        taken(" \n stop\n;\nyear20;when free s<9;end;", 3);
        fault(2, "|stopp;");
        fault(2, "|yeary 1;");
        fault(1, "any;|\t");
        fault(1, "any;|Stop;");
    }

    private static void steps() {
        Check.says("CENTURIES: {STEP}. STEP: year NUMBER ; or die NAME ; or birth NAME NAME ; or wed NAME NAME ; or sell NAME NAME ; "
                + "or swap NAME NAME ; or any ; or when TEST ; {STEP} end ; or loop NUMBER ; {STEP} end ; or stop ;");
        Rows.on(TOWN, "centuries(0) = 0", "live(0) = 0");
        taken(" ", 0);
        for (String step : new String[] {"year 5", "die ann", "birth ann bob", "wed ann bob", "sell ann bob", "swap ann bob", "any",
            "stop", "birth ann ann", "wed bob bob"}) {
            taken(step + ";", 1);
            fault(2, step + "|");
            fault(2, step + " |any;");
            fault(2, step + " |<");
            taken("loop 2;" + step + ";end;" + step + ";", 3);
            taken("when dash ann;" + step + ";" + step + ";end;", 3);
        }
        fault(2, "year |;");
        fault(2, "year |ann;");
        fault(2, "die |;");
        fault(2, "die |7;");
        for (String step : new String[] {"birth", "wed", "sell", "swap"}) {
            fault(2, step + " |;");
            fault(2, step + " |3;");
            fault(2, step + " ann |;");
            fault(2, step + " ann |3;");
            fault(2, step + " ann bob |cid;");
            fault(2, step + " |end bob;");
            fault(3, step + " |t bob;");
            fault(3, step + " bob |t;");
        }
        fault(2, "any |ann;");
        fault(2, "stop |1;");
        fault(2, "loop |;");
        fault(2, "loop |ann;");
        fault(2, "loop 2 |any;end;");
        fault(2, "loop 2;end|");
        fault(2, "loop 2;end |any;");
        for (String word : "most life name worth person born of coins miser child likes waits for bears dash free".split(" ")) {
            fault(2, "any;|" + word + ";");
        }
    }

    private static void tests() {
        Check.says("TEST: bears NAME NAME, or dash NAME, or free NAME COMPARES NUMBER. COMPARES: < or > or =");
        taken("when bears ann s;end;when dash cid;end;when free t < 1;end;when free t > 1;end;when free t = 1;end;", 5);
        fault(2, "when |;");
        fault(2, "when |ann;");
        fault(2, "when |any;");
        fault(2, "when |year 1;");
        fault(2, "when bears |;");
        fault(2, "when bears ann |;");
        fault(2, "when bears ann s |t;");
        fault(2, "when dash |;");
        fault(2, "when dash ann |bob;");
        fault(2, "when free |;");
        fault(2, "when free s |;");
        fault(2, "when free s |1;");
        fault(2, "when free s |s;");
        fault(2, "when free s < |;");
        fault(2, "when free s < |= 1;");
        fault(2, "when free s < 1 |2;");
        fault(2, "when free s <|");
        fault(2, "when dash ann |any;end;");
    }

    private static void faults12() {
        Check.says("FAULTS: 1, 2 as above (an end without a beginning; the text's end ahead of an end: 2).");
        fault(1, "year |00020;");
        fault(1, "any;|*");
        fault(1, "die |?");
        fault(1, "when free s |!= 1;");
        fault(2, "die |abcdefghi;");
        fault(2, "when bears ann |abcdefghi;");
        fault(2, "|abcdefghi;");
        fault(2, "|end;");
        fault(2, "any;|end;");
        fault(2, "loop 1;any;end;|end;");
        fault(2, "loop 1;loop 1;end;end;|end;");
        fault(2, "loop 1;|");
        fault(2, "loop 1;any; \n |");
        fault(2, "when dash ann;|");
        fault(2, "loop 1;when dash ann;end;|");
        fault(2, "loop 1;loop 1;loop 1;end;end;|");
    }

    private static void faults34() {
        Check.says("3 a NAME that is no such one (PERSONS; a SURNAME behind bears' PERSON, behind free).");
        fault(3, "die |who;");
        fault(3, "die |s;");
        fault(3, "when bears |s s;");
        fault(3, "when bears |who s;");
        fault(3, "when bears ann |bob;");
        fault(3, "when bears ann |who;");
        fault(3, "when dash |t;");
        fault(3, "when dash |who;");
        fault(3, "when free |ann < 1;");
        fault(3, "when free |who < 1;");
        // The dead have their names yet; who is born later has none.
        Rows.on(TOWN, "die(0) = 3", "birth(1,2) = 4", "centuries: die ann;when bears bob t;end; = 2");
        // What a town ahead of this one told is no more; of twelve and six each is known.
        Rows.on("name s;name t;name u;person a born 1700;person b born 1700;person c born 1700;", "town: name v;person x born 1700;person y born 1700;"
                + "person z born 1700; = 3", "centuries: when free t < 1;end; !10", "fault(0) = 3", "fault(1) = 10", "centuries: die b; !10",
                "fault(0) = 3", "fault(1) = 4", "centuries: die z;when free v = 9;end; = 2");
        StringBuilder all = new StringBuilder("name sa;name sb;name sc;name sd;name se;name sf;");
        for (char c = 'a'; c <= 'l'; c++) {
            all.append("person p").append(c).append(" born 1780;");
        }
        Rows.on(all.toString(), "centuries: die pl;when bears pk sf;end;when free sf < 9;die pa;end; = 4", "live(0) = 3", "many(1) = 12",
                "many(2) = {0,1,2,3,4,5,6,7,8,9,10}", "centuries: when free sg < 9;end; !10", "fault(0) = 3", "centuries: die pm; !10", "fault(0) = 3");
        Check.says("4 a NUMBER that can't be.");
        fault(4, "year |0;");
        fault(4, "year |21;");
        fault(4, "year |9999;");
        taken("year 1;year 20;", 2);
        fault(4, "loop |0;");
        fault(4, "loop |100;");
        taken("loop 1;end;loop 99;end;", 2);
        fault(4, "when free s < |10;");
        fault(4, "when free s = |9999;");
        taken("when free s > 0;end;when free s = 9;end;", 2);
    }

    private static void faults67() {
        Check.says("6 a 31st STEP (at its WORD; end is none).");
        taken("any;".repeat(30), 30);
        taken("loop 1;when dash ann;any;end;end;".repeat(8) + "any;any;any;any;any;any;", 30);
        taken("loop 1;".repeat(3) + "any;".repeat(27) + "end;".repeat(3), 30);
        fault(6, "any;".repeat(30) + "|any;");
        fault(6, "any;".repeat(30) + "|year !");
        fault(6, "any;".repeat(30) + "|when");
        fault(6, "any;".repeat(29) + "loop 1;|any;end;");
        fault(6, "loop 1;" + "any;".repeat(29) + "end;|stop;");
        // What begins no step is no 31st one.
        fault(2, "any;".repeat(30) + "|ann;");
        fault(2, "any;".repeat(30) + "|end;");
        fault(2, "any;".repeat(30) + "|bears ann s;");
        fault(1, "any;".repeat(30) + "|!");
        Check.says("7 a when, loop within three others (at its WORD).");
        fault(7, "loop 1;loop 1;loop 1;|loop 1;");
        fault(7, "loop 1;loop 1;loop 1;|when dash ann;");
        fault(7, "when dash ann;when dash ann;when dash ann;|loop 100;");
        fault(7, "loop 1;when dash ann;loop 1;any;|when !");
        fault(7, "loop 1;loop 1;loop 1;end;loop 1;|loop 1;");
        taken("loop 1;loop 1;loop 1;any;end;loop 1;end;end;loop 1;when dash ann;end;end;end;", 7);
        // Of one token the least kind: a 31st step that stands too deep.
        fault(6, "any;".repeat(27) + "loop 1;loop 1;loop 1;|loop 1;");
    }

    private static void yearsAndWeddings() {
        Check.says("year: so many (1 to 20); wed: by way 0;");
        Rows.on(TOWN, "centuries: year 1;year 20;wed ann bob; = 3", "live(0) = 3", "many(4) = 1821", "person(0,4) = 1",
                "person(0,2) = 0", "person(1,2) = 1", "lived(1) = 21");
    }

    private static void any() {
        Check.says("any: one who lives, by a draw by how many they are, by numbers, DIES.");
        // Seed 0: s = 10709, by 8 it is 1338. Of 4 rests 2, of 3 rests 0, of 2 rests 0.
        Rows.on(TOWN, "centuries: any; = 1", "live(0) = 1", "many(2) = {0,1,3}", "lived(3) = 1", "live(0) = 1", "many(2) = {1,3}",
                "live(0) = 1", "many(2) = {3}", "person(3,8) = 1", "live(0) = 1", "many(2) = {}", "live(0) = 1", "lived(0) = 1",
                "lived(3) = 0");
        // What the dead one leaves: who waits, who was wed.
        Rows.on("most 1;name s;person a born 1780;person b born 1780;person c born 1780 of s;person d born 1780;wed c d;waits a for s;",
                "centuries: any; = 1", "live(0) = 1", "many(2) = {0,1,3}", "person(0,2) = 0", "many(7) = 0", "many(8) = {}");
    }

    private static void missed() {
        Check.says("What can't be is MISSED: YEARS beyond 2,999 (as a whole), a death of the dead,");
        Rows.on("year 2980;person a born 2970;", "centuries: year 20; = 1", "live(0) = 1", "lived(0) = 1", "lived(1) = 0",
                "many(4) = 2980", "centuries: year 19;year 1; = 2", "live(0) = 2", "lived(0) = 1", "lived(1) = 19", "many(4) = 2999");
        Rows.on(TOWN, "centuries: die ann;die ann;die bob; = 3", "live(0) = 3", "lived(0) = 1", "lived(3) = 2", "many(2) = {2,3}");
        Check.says("a birth by such, or of a 13th PERSON,");
        Rows.on(TOWN, "centuries: die ann;birth ann bob;birth bob ann;birth bob cid; = 4", "live(0) = 4", "lived(0) = 2", "lived(2) = 1",
                "many(1) = 5");
        Rows.on("person a born 1784;person b born 1785;", "centuries: birth a b;birth a a;year 1;birth b a; = 4", "live(0) = 4",
                "lived(0) = 2", "lived(2) = 1", "many(1) = 3");
        Rows.on("person a born 1750;person b born 1750;", "centuries: loop 11;birth a b;end; = 2", "live(0) = 12", "lived(0) = 1",
                "lived(2) = 10", "many(1) = 12", "live(0) = 12", "lived(0) = 11", "lived(2) = 0");
    }

    private static void missedByPeople() {
        Check.says("a wedding, sale, swap that can't be, any without living ones (no draw).");
        Rows.on(TOWN, "centuries: wed ann bob;wed ann cid;wed cid bob;wed cid cid;wed cid dot; = 5", "live(0) = 5", "lived(0) = 4",
                "many(8) = {0,1}");
        Rows.on(TOWN, "centuries: wed cid dot;year 6;wed cid dot; = 3", "live(0) = 3", "lived(0) = 1", "many(8) = {2,3}");
        Rows.on(TOWN, "centuries: sell ann bob;sell cid bob;sell bob dot;sell dot bob;sell bob bob; = 5", "live(0) = 5", "lived(0) = 4",
                "person(3,2) = 1", "person(1,3) = 7");
        Rows.on(TOWN, "centuries: sell bob dot;year 8;sell dot bob;year 1;sell dot bob; = 5", "live(0) = 5", "lived(0) = 1",
                "person(1,2) = 1", "person(3,3) = 7");
        Rows.on(TOWN, "centuries: swap ann bob;swap ann ann;swap cid dot;die bob;swap ann bob; = 5", "live(0) = 5", "lived(0) = 3",
                "person(0,2) = 1");
        Rows.on("", "town:   = 0", "centuries: any;any; = 2", "live(0) = 2", "lived(0) = 2", "lived(3) = 0");
        // What is missed changes nothing, and is a step.
        Rows.on(TOWN, "centuries: swap ann ann; = 1", "live(5) = 1", "lived(0) = 1", "many(2) = {0,1,2,3}");
    }

    private static void whens() {
        Check.says("when bears: it lives and bears that; dash: it lives and bears none; free: FREE PLACES (0 to 9).");
        holds("bears ann s", true);
        holds("bears ann t", false);
        holds("bears cid s", false);
        holds("bears bob t", false);
        holds("dash cid", true);
        holds("dash dot", false);
        holds("dash ann", false);
        holds("dash bob", false);
        holds("free s = 8", true);
        holds("free s = 7", false);
        holds("free s < 9", true);
        holds("free s < 8", false);
        holds("free s > 7", true);
        holds("free s > 8", false);
        holds("free s > 9", false);
        holds("free s < 0", false);
        holds("free t = 9", true);
        holds("free t < 9", false);
        holds("free t > 8", true);
        Rows.on("most 2;name s;person a born 1780 of s;person b born 1780 of s;", "rule(1) = true",
                "centuries: when free s = 0;stop;end;any; = 3", "live(0) = 2", "many(2) = {0,1}");
    }

    /** In a town in which bob, a dash, is dead, and dot, too. */
    private static void holds(String test, boolean want) {
        Rows.on(TOWN, "die(1) = 3", "die(3) = 2", "centuries: when " + test + ";year 3;end;year 1; = 3", "live(0) = " + (want ? 3 : 2),
                "lived(1) = " + (want ? 4 : 1), "lived(0) = 0");
    }

    private static void loops() {
        Check.says("loop n (1 to 99): as often.");
        Rows.on(TOWN, "centuries: loop 1;year 1;end; = 2", "live(0) = 2", "many(4) = 1801", "live(0) = 2", "many(4) = 1802");
        Rows.on(TOWN, "centuries: loop 99;year 1;end; = 2", "live(0) = 100", "many(4) = 1899");
        Rows.on(TOWN, "centuries: loop 3;loop 4;year 1;end;loop 2;year 10;end;end;year 5; = 6", "live(0) = 26", "many(4) = 1877",
                "live(0) = 26", "many(4) = 1954");
        Rows.on(TOWN, "centuries: loop 2;loop 3;loop 4;year 1;end;end;end; = 4", "live(0) = 33", "many(4) = 1824");
        Rows.on(TOWN, "centuries: loop 5;when dash ann;year 1;end;year 2;swap ann cid;end; = 5", "live(0) = 18", "lived(1) = 12",
                "lived(0) = 0");
        Rows.on(TOWN, "centuries: loop 9;year 1;stop;end;year 9; = 4", "live(0) = 3", "many(4) = 1801", "lived(4) = 0");
    }

    private static void threeHundred() {
        Check.says("At most 300 STEPS (when, loop count as one each time they are come to from ahead; end does not).");
        String nearly = "swap ann bob;loop 99;swap ann bob;swap ann bob;swap ann bob;end;";
        // 299 steps, and then one more or two.
        lives(nearly, 299, 0);
        lives(nearly + "any;", 300, 0);
        lives(nearly + "any;any;", 300, 1);
        lives(nearly + "stop;", 300, 0);
        lives(nearly + "any;stop;", 300, 1);
        lives(nearly + "loop 9;end;", 300, 0);
        lives(nearly + "loop 9;any;end;", 300, 1);
        lives(nearly + "loop 9;end;any;", 300, 1);
        lives(nearly + "when dash ann;any;end;", 300, 0);
        lives(nearly + "when dash cid;any;end;", 300, 1);
        lives(nearly + "when dash cid;end;", 300, 0);
        lives(nearly + "when dash ann;end;loop 1;end;", 300, 1);
        lives("loop 1;" + nearly + "end;", 300, 0);
        lives("loop 2;" + nearly + "end;", 300, 1);
        lives("loop 99;loop 99;loop 99;swap ann bob;end;end;end;", 300, 1);
        lives("loop 99;loop 99;end;end;", 100, 0);
        lives("loop 99;when dash ann;any;end;end;", 100, 0);
        lives("loop 99;loop 99;loop 99;end;end;end;", 300, 1);
        lives("loop 99;when dash cid;when dash cid;end;end;end;stop;any;", 200, 0);
        lives("loop 99;when dash cid;when dash cid;swap ann bob;end;end;end;", 298, 0);
    }

    private static void lives(String text, int steps, int left) {
        NineNames x = Check.with(TOWN, text);
        Check.fine("live: " + text, x, x.live(0), steps);
        Check.fine("a step was left of " + text, x, x.lived(4), left);
        Check.fine("none was missed of " + text, x, x.lived(0), 0);
    }

    private static void lived() {
        Check.says("LIVED by a seed (0 to 9,999): all is as it is then.");
        Rows.on(TOWN, "centuries: year 3;birth ann bob;die cid; = 3", "live(-1) !5", "live(10000) !5", "live(0) = 3", "many(4) = 1803",
                "many(1) = 5", "many(2) = {0,1,3,4}", "live(9999) = 3", "many(4) = 1806", "many(1) = 6", "lived(0) = 1", "lived(1) = 3",
                "lived(2) = 1", "lived(3) = 0", "lived(4) = 0");
    }

    private static void draws() {
        Check.says("Draws: s, at first the seed, becomes what is left of s times 2,971 and 10,709 by 65,536; "
                + "the draw by n is the rest of s by 8, rounded down, by n.");
        // From 0: 10709, 42188, 46425: 1338 by 4 rests 2 (cid), 5273 by 3 rests 2 (dot), 5803 by 2 rests 1 (bob).
        Rows.on(TOWN, "centuries: any;any; = 2", "live(0) = 2", "many(2) = {0,1}");
        Rows.on(TOWN, "centuries: any;any;any; = 3", "live(0) = 3", "many(2) = {0}");
        // From 9999: 9999 times 2971 and 10709 leave 29930; by 8 it is 3741, by 4 rests 1.
        Rows.on(TOWN, "centuries: any; = 1", "live(9999) = 1", "many(2) = {0,2,3}");
        // From 1: 13680, by 8 it is 1710, by 4 rests 2. From 5: 25564, 3195, 3. From 9: 37448, 4681, 1. From 3: 19622, 2452, 0.
        Rows.on(TOWN, "centuries: any; = 1", "mark() = 1", "live(1) = 1", "many(2) = {0,1,3}", "back() = 0", "mark() = 1", "live(5) = 1",
                "many(2) = {0,1,2}", "back() = 0", "mark() = 1", "live(9) = 1", "many(2) = {0,2,3}", "back() = 0", "live(3) = 1",
                "many(2) = {1,2,3}");
        // Twelve: the draw is by how many live. From 0 by 12: 1338 rests 6; then 5273 by 11 rests 4.
        StringBuilder twelve = new StringBuilder();
        for (char c = 'a'; c <= 'l'; c++) {
            twelve.append("person p").append(c).append(" born 1780;");
        }
        Rows.on(twelve.toString(), "centuries: any; = 1", "live(0) = 1", "many(2) = {0,1,2,3,4,5,7,8,9,10,11}");
        Rows.on(twelve.toString(), "centuries: any;any; = 2", "live(0) = 2", "many(2) = {0,1,2,3,5,7,8,9,10,11}");
    }

    private static void marks() {
        Check.says("MARKS, at most 3: the TOWN with all that became of it, the CENTURIES are kept as they are; "
                + "all is taken back to the latest MARK, which is gone then.");
        Rows.on(TOWN + "waits cid for s;likes ann t;", "centuries: year 2; = 1", "mark() = 1", "tray(0,0,1) = true", "wish(0,0,1) = true",
                "earn(0,1) = 1", "sell(1,3) = 7", "wed(0,1,0) = true", "centuries: year 3;year 3; = 2", "mark() = 2",
                "town: name z;person q born 1800; = 1", "mark() = 3", "mark() !7", "year(5) = {}", "back() = 2", "many(4) = 1800",
                "many(1) = 1", "live(0) !8", "back() = 1", "many(1) = 4", "person(0,3) = 1", "liked(0,0) = 0", "surname(1,3) = 1800",
                "many(8) = {0,1}", "person(2,2) = 0", "many(7) = 0", "live(0) = 2", "many(4) = 1806", "back() = 0", "many(4) = 1800",
                "person(0,3) = 0", "liked(0,0) = 1", "surname(1,3) !8", "many(8) = {}", "person(2,2) !8", "many(7) = 1", "live(0) = 1",
                "many(4) = 1802", "back() !8", "mark() = 1", "back() = 0");
    }

    private static void fractions() {
        Check.says("FRACTIONS are told by top() and bottom() without a common divisor, the bottom above 0; 0 is 0 by 1.");
        Rows.on("name s;person a born 1780 of s;person b born 1780;person c born 1780 of s;", "top() = 0", "bottom() = 1",
                "luck(0,1,4) = true", "top() = 7", "bottom() = 16", "luck(0,2,12) = true", "top() = 9", "bottom() = 16",
                "luck(0,1,0) = true", "top() = 0", "bottom() = 1", "luck(0,0,9) = true", "top() = 1", "bottom() = 1",
                "centuries: die b; = 1", "mean(0,20) = true", "top() = 0", "bottom() = 1", "centuries: year 1; = 1", "mean(0,20) = true",
                "top() = 1", "bottom() = 1");
        // By seed 1 cid dies, a dash; by 2 bob (2081 rests 1), by 3 ann.
        Rows.on(TOWN, "centuries: any; = 1", "mean(1,1) = true", "top() = 1", "bottom() = 1", "mean(3,1) = true", "top() = 2",
                "bottom() = 1", "mean(1,3) = true", "top() = 5", "bottom() = 3");
    }
}
