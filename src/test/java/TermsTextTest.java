/** The first part of the Terms, sentence by sentence: trays, the text of a town, its faults. */
public final class TermsTextTest {
    private static final String NAMES = "name smith worth 30;name jones;name lee worth 0;";
    private static final String PEOPLE = NAMES + "person ann born 1750 of smith coins 40;person bob born 1760 of jones;"
            + "person cid born 1780 miser;person dot born 1790;";
    private static final String WORDS = "year most life name worth person born of coins miser child wed likes waits for die birth "
            + "sell swap any when bears dash free loop end stop";

    public static void main(String[] args) {
        trays();
        length();
        tokens();
        parts();
        partsOfPeople();
        names();
        heads();
        surnames();
        persons();
        coins();
        children();
        weddings();
        likes();
        likesOfTheLast();
        waits();
        order();
        firstFault();
        faults1();
        faults2();
        faults3();
        faults4();
        faults5();
        faults6();
        inPlaceOfThatAhead();
        Check.end();
    }

    private static void fault(int kind, String marked) {
        Check.townFault(kind, marked);
    }

    private static void trays() {
        Check.says("TRAYS, 0 to 3, are MISSING at first");
        Rows.on("", "read(0,0) !3", "read(1,0) !3", "read(2,0) !3", "read(3,0) !3", "read(4,0) !1", "read(-1,0) !1",
                "tray(0,0,1) = true", "tray(3,0,1) = true", "tray(4,0,1) !1", "tray(-1,0,1) !1", "read(0,0) = 0",
                "read(3,0) = 0", "read(1,0) !3");
        Check.says("or rows of numbers of 8 bits (sort 0), 16 (1), 32 (2) or 64 (3), with sign; what is written is cut to these.");
        cutTo(0, -128, 127, 128, -128, -129, 127, 255, -1, 256, 0, 383, 127, -257, -1, Long.MAX_VALUE, -1, Long.MIN_VALUE, 0);
        cutTo(1, -32768, 32767, 32768, -32768, -32769, 32767, 65535, -1, 65536, 0, 128, 128, -129, -129);
        cutTo(2, -2147483648L, 2147483647L, 2147483648L, -2147483648L, -2147483649L, 2147483647L, 4294967295L, -1,
                4294967296L, 0, 32768, 32768, -32769, -32769);
        cutTo(3, Long.MIN_VALUE, Long.MAX_VALUE, 4294967296L, 4294967296L, -2147483649L, -2147483649L);
        Rows.on("", "tray(0,-1,1) !1", "tray(0,4,1) !1", "read(0,0) !3");
    }

    /** What a sort holds at least and at most, and then pairs of what is written and what stands there. */
    private static void cutTo(int sort, long least, long most, long... pairs) {
        NineNames x = new NineNames();
        x.tray(1, sort, 2);
        long[] same = {least, most, 0, -1, 1};
        for (long v : same) {
            Check.fine("write", x, x.write(1, 1, v));
            Check.fine("sort " + sort + " holds it", x, x.read(1, 1), v);
        }
        for (int k = 0; k < pairs.length; k += 2) {
            Check.fine("write", x, x.write(1, 1, pairs[k]));
            Check.fine(pairs[k] + " in sort " + sort, x, x.read(1, 1), pairs[k + 1]);
            Check.fine("the place beside it", x, x.read(1, 0), 0);
        }
    }

    private static void length() {
        Check.says("A TOWN is a TEXT of at most 900 bytes.");
        NineNames x = new NineNames();
        Check.due("900 bytes are fed", Check.feed(x, " ".repeat(893) + "name z;"), 900);
        Check.due("no more", x.feed(0x20202020, 0, 0, 0, 0), -1);
        Check.refused("901", x, x.town(901), 5);
        Check.fine("900", x, x.town(900), 0);
        Check.fine("read to its end", x, x.many(0), 1);
        Check.due("899 of 900", Check.feed(x, " ".repeat(893) + "name z;"), 900);
        Check.refused("899 of 900", x, x.town(899), 10);
        Check.due("cut ahead of its last byte", x.fault(1), 899);
        Check.due("by kind", x.fault(0), 2);
    }

    private static void tokens() {
        Check.says("TOKENS, as long as they go, between them blanks (10, 32)");
        Rows.on("\n\nyear\n1900\n;\n name  ab ;name a;name abc\nworth 7 ;\n", "many(0) = 3", "many(4) = 1900", "surname(2,0) = 7");
        Rows.on("year1900;name a worth7;person b born1850of a coins9miser;", "many(1) = 1", "person(0,3) = 9");
        fault(2, "|namea;");
        fault(2, "name a |b;");
        fault(2, "name a worth 1 |0;");
        fault(4, "year |18 00;");
        fault(2, "year |eighteen;");
        fault(2, "name a|9;");
        for (char c : new char[] {0, 1, 9, 11, 12, 13, 31, 33, 127, 128, 160, 255}) {
            fault(1, "name a|" + c + ";");
        }
        Check.says("WORDS (small letters), NUMBERS (1 to 4 digits), SIGNS ; < > =");
        Rows.on("name a;name z;name az;", "many(0) = 3");
        Rows.on("name a worth 0000;name b worth 0099;name c worth 7;name d worth 07;name e worth 007;", "surname(0,0) = 0",
                "surname(1,0) = 99", "surname(2,0) = 7", "surname(3,0) = 7", "surname(4,0) = 7");
        for (char c : "`{AZ@[/:?!\"#$%&'()*+,-.\\]^_}~".toCharArray()) {
            fault(1, "|" + c);
            fault(1, "name ab|" + c + "c;");
            fault(1, "name ab worth 1|" + c + "2;");
        }
        fault(2, "|<");
        fault(2, "|>");
        fault(2, "|=");
        fault(2, "name a|<;");
        fault(2, "name a;|;");
    }

    private static void parts() {
        Check.says("TOWN: {PART}. PART: year NUMBER ; or most NUMBER ; or life NUMBER ;");
        Rows.on("", "town:   = 0", "many(0) = 0", "town: \n = 0", "town(0) = 0");
        Rows.on("life 30;year 1700;most 4;", "many(4) = 1700", "many(5) = 4", "many(6) = 30", "many(1) = 0");
        for (String head : new String[] {"year", "most", "life"}) {
            fault(2, head + " |;");
            fault(2, head + "|");
            fault(2, head + " |a;");
            fault(2, head + " |year;");
        }
        fault(2, "year 1800|");
        fault(2, "most 1|");
        fault(2, "life 20|");
        fault(2, "year 1800 |1800;");
        Check.says("or name NAME [worth NUMBER] ;");
        Rows.on("name a;name b worth 3;", "surname(0,0) = 10", "surname(1,0) = 3");
        fault(2, "name|");
        fault(2, "name |;");
        fault(2, "name |5;");
        fault(2, "name a worth |;");
        fault(2, "name a worth |b;");
        fault(2, "name a |5;");
        fault(2, "name a worth 5 |worth 5;");
        fault(2, "name a worth 5|");
        fault(2, "name a|");
        fault(2, "name a |name b;");
        Check.says("or likes NAME {NAME} ;");
        Rows.on(PEOPLE + "likes ann;likes bob lee;likes cid lee smith jones;", "liked(0,0) !8", "liked(1,0) = 2", "liked(1,1) !8",
                "liked(2,0) = 2", "liked(2,1) = 0", "liked(2,2) = 1", "liked(2,3) !8");
        fault(2, PEOPLE + "likes |;");
        fault(2, PEOPLE + "likes|");
        fault(2, PEOPLE + "likes ann lee|");
        fault(2, PEOPLE + "likes ann |7;");
        fault(2, PEOPLE + "likes ann |of;");
        Check.says("or waits NAME for NAME ; ({ } any number of times, [ ] perhaps.)");
        Rows.on(PEOPLE + "waits ann for lee;", "many(7) = 1");
        fault(2, PEOPLE + "waits |;");
        fault(2, PEOPLE + "waits |for lee;");
        fault(2, PEOPLE + "waits ann |;");
        fault(2, PEOPLE + "waits ann |lee;");
        fault(2, PEOPLE + "waits ann for |;");
        fault(2, PEOPLE + "waits ann for |for;");
        fault(2, PEOPLE + "waits ann for lee |jones;");
        fault(2, PEOPLE + "waits ann for lee|");
    }

    private static void partsOfPeople() {
        Check.says("or person NAME born NUMBER [of NAME] [coins NUMBER] [miser] ;");
        for (int way = 0; way < 8; way++) {
            String text = "name s;person p born 1777" + ((way & 1) != 0 ? " of s" : "") + ((way & 2) != 0 ? " coins 5" : "")
                    + ((way & 4) != 0 ? " miser" : "") + ";";
            Rows.on(text, "person(0,0) = 1777", (way & 1) != 0 ? "person(0,2) = 0" : "person(0,2) !8",
                    "person(0,3) = " + ((way & 2) != 0 ? 5 : 0), "person(0,8) = " + ((way & 4) != 0 ? 1 : 0));
        }
        fault(2, "person|");
        fault(2, "person |;");
        fault(2, "person |1700;");
        fault(2, "person |born 1700;");
        fault(2, "person a |1700;");
        fault(2, "person a |;");
        fault(2, "person a born |;");
        fault(2, "person a born |of;");
        fault(2, "person a born 1700 |1700;");
        fault(2, "name s;person a born 1700 of |;");
        fault(2, "name s;person a born 1700 of |9;");
        fault(2, "name s;person a born 1700 of s |of s;");
        fault(2, "name s;person a born 1700 coins 1 |of s;");
        fault(2, "name s;person a born 1700 miser |of s;");
        fault(2, "person a born 1700 coins |;");
        fault(2, "person a born 1700 coins |miser;");
        fault(2, "person a born 1700 miser |coins 1;");
        fault(2, "person a born 1700 miser |miser;");
        fault(2, "person a born 1700 |worth 1;");
        fault(2, "person a born 1700|");
        Check.says("or child NAME of NAME NAME ; or wed NAME NAME ;");
        Rows.on(PEOPLE + "child cid of ann bob;wed cid dot;", "person(2,5) = 0", "person(2,6) = 1", "person(2,4) = 3");
        fault(2, PEOPLE + "child |;");
        fault(2, PEOPLE + "child |of ann bob;");
        fault(2, PEOPLE + "child cid |ann bob;");
        fault(2, PEOPLE + "child cid of |;");
        fault(2, PEOPLE + "child cid of ann|;");
        fault(2, PEOPLE + "child cid of ann |of;");
        fault(2, PEOPLE + "child cid of ann bob |dot;");
        fault(2, PEOPLE + "child cid of ann bob|");
        fault(2, PEOPLE + "wed |;");
        fault(2, PEOPLE + "wed ann|;");
        fault(2, PEOPLE + "wed ann bob |cid;");
        fault(2, PEOPLE + "wed ann |of bob;");
        fault(2, PEOPLE + "wed ann bob|");
    }

    private static void names() {
        Check.says("NAME: a WORD of 1 to 8 letters that is none of year, most, life, name, worth, person, born, of, coins, miser, "
                + "child, wed, likes, waits, for, die, birth, sell, swap, any, when, bears, dash, free, loop, end, stop.");
        Rows.on("name a;name abcdefgh;name zzzzzzzz;person b born 1700 of abcdefgh;person zzzzzzz born 1700 of zzzzzzzz;",
                "many(0) = 3", "person(0,2) = 1", "person(1,2) = 2");
        fault(2, "name |abcdefghi;");
        fault(2, "name |" + "a".repeat(13) + ";");
        fault(2, "name |" + "z".repeat(60) + ";");
        for (String word : WORDS.split(" ")) {
            fault(2, "name |" + word + ";");
            fault(2, "person |" + word + " born 1700;");
            fault(2, PEOPLE + "wed ann |" + word + ";");
            Rows.on("name " + word + "s;name x" + word + ";person " + word.substring(0, word.length() - 1) + "q born 1700;",
                    "many(0) = 2", "many(1) = 1");
        }
        Check.says("One NAME (such a WORD) is of one thing alone.");
        fault(3, "name a;name |a;");
        fault(3, "name a;person |a born 1700;");
        fault(3, "person a born 1700;name |a;");
        fault(3, "person a born 1700;person |a born 1700;");
        Rows.on("name a;name aa;person aaa born 1700;person b born 1700;", "many(0) = 2", "many(1) = 2");
    }

    private static void heads() {
        Check.says("YEAR (1000 to 2999; 1800 without).");
        Rows.on("year 1000;", "many(4) = 1000");
        Rows.on("year 2999;", "many(4) = 2999");
        Rows.on("most 1;", "many(4) = 1800");
        fault(4, "year |0;");
        fault(4, "year |999;");
        fault(4, "year |3000;");
        fault(4, "year |9999;");
        Check.says("MOST (1 to 9; 9 without): so many PLACES each SURNAME has.");
        Rows.on("most 1;name s;name t;", "many(5) = 1", "surname(0,1) = 1", "surname(1,1) = 1");
        Rows.on("most 9;name s;", "many(5) = 9", "surname(0,1) = 9");
        Rows.on("name s;", "many(5) = 9", "surname(0,1) = 9");
        fault(4, "most |0;");
        fault(4, "most |10;");
        Check.says("LIFE (17 to 120; 80 without).");
        Rows.on("life 17;", "many(6) = 17");
        Rows.on("life 120;", "many(6) = 120");
        Rows.on("year 1900;", "many(6) = 80");
        fault(4, "life |16;");
        fault(4, "life |121;");
    }

    private static void surnames() {
        Check.says("SURNAMES (told by name), at most 6: WORTH (0 to 99; 10 without).");
        Rows.on("name a;name b;name c;name d;name e worth 99;name f worth 0;", "many(0) = 6", "surname(3,0) = 10",
                "surname(4,0) = 99", "surname(5,0) = 0", "surname(6,0) !2");
        fault(4, "name a worth |100;");
        fault(4, "name a worth |9999;");
        fault(6, "name a;name b;name c;name d;name e;name f;|name g;");
    }

    private static void persons() {
        Check.says("PERSONS, at most 12: BORN in a YEAR (1000 to 2999; in the YEAR of the TOWN told so far at the latest), "
                + "bears a SURNAME, or DASH (none);");
        Rows.on(Check.people(12, ""), "many(1) = 12", "person(11,0) = 1700", "person(12,0) !2");
        fault(6, Check.people(12, "") + "|person q born 1700;");
        Rows.on("person a born 1000;person b born 1800;", "person(0,1) = 800", "person(1,1) = 0");
        Rows.on("year 2999;person a born 2999;person b born 1000;", "person(0,1) = 0", "person(1,1) = 1999");
        Rows.on("year 1000;person a born 1000;", "person(0,1) = 0");
        fault(4, "person a born |999;");
        fault(4, "person a born |1801;");
        fault(4, "year 1850;person a born |1851;");
        fault(4, "year 1700;person a born |1701;");
        fault(4, "year 2999;person a born |3000;");
        Rows.on("name s;name t;person a born 1700;person b born 1700 of t;", "person(0,2) !8", "person(1,2) = 1", "many(3) = {0}");
    }

    private static void coins() {
        Check.says("COINS (0 to 999; 0 without), a MISER or not.");
        Rows.on("person a born 1700 coins 999;person b born 1700 coins 0 miser;person c born 1700;person d born 1700 miser;",
                "person(0,3) = 999", "person(1,3) = 0", "person(2,3) = 0", "many(10) = 999", "person(0,8) = 0", "person(1,8) = 1",
                "person(2,8) = 0", "person(3,8) = 1");
        fault(4, "person a born 1700 coins |1000;");
    }

    private static void children() {
        Check.says("CHILD: the first is a CHILD of both others (told again: the latest).");
        Rows.on(PEOPLE + "child ann of bob cid;", "person(0,5) = 1", "person(0,6) = 2", "person(1,5) !8", "children(1) = {0}",
                "children(2) = {0}");
        Rows.on(PEOPLE + "child ann of bob cid;child ann of dot bob;", "person(0,5) = 3", "person(0,6) = 1", "children(2) = {}");
        Rows.on(PEOPLE + "child ann of bob cid;child bob of ann cid;", "person(1,5) = 0", "person(0,5) = 1");
    }

    private static void weddings() {
        Check.says("WED: two are WED.");
        // A wedding that is told needs neither age nor distance of kin.
        Rows.on("person a born 1800;person b born 1800;person c born 1800;child a of b c;wed a b;", "person(0,4) = 1",
                "person(1,4) = 0", "many(8) = {0,1}");
    }

    private static void likes() {
        Check.says("LIKES: SURNAMES, the dearest first, each once (told again: the latest; none without).");
        Rows.on(PEOPLE, "liked(0,0) !8");
        Rows.on(PEOPLE + "likes ann smith;", "liked(0,0) = 0", "liked(0,1) !8");
        Rows.on(PEOPLE + "likes ann lee jones smith;likes ann jones lee;", "liked(0,0) = 1", "liked(0,1) = 2", "liked(0,2) !8");
        Rows.on(PEOPLE + "likes ann lee;likes ann;", "liked(0,0) !8");
        Rows.on("name a;name b;name c;name d;name e;name f;person p born 1700;likes p f e d c b a;person q born 1700;",
                "liked(0,0) = 5", "liked(0,5) = 0", "liked(0,6) !8", "liked(1,0) !8");
        fault(5, "name a;name b;name c;name d;name e;name f;person p born 1700;likes p f e d c b a |a;");
        fault(5, PEOPLE + "likes ann lee |lee;");
    }

    private static void likesOfTheLast() {
        Check.says("LIKES: SURNAMES, the dearest first, each once (told again: the latest; none without).");
        Rows.on("name s;name t;" + Check.people(12, "") + "likes pl t s;likes pg s;", "liked(11,0) = 1", "liked(11,1) = 0", "liked(11,2) !8",
                "liked(6,0) = 0", "liked(6,1) !8", "liked(10,0) !8");
    }

    private static void waits() {
        Check.says("WAITS: a PERSON WAITS for a SURNAME (at the end of the QUEUE).");
        Rows.on(PEOPLE + "waits dot for lee;waits ann for lee;waits cid for smith;", "many(7) = 3", "waiting(0,0) = 3",
                "waiting(0,1) = 2", "waiting(1,0) = 0", "waiting(1,1) = 2", "waiting(2,0) = 2", "waiting(2,1) = 0", "waiting(3,0) !8");
        StringBuilder all = new StringBuilder("name s;").append(Check.people(12, ""));
        for (char c = 'l'; c >= 'a'; c--) {
            all.append("waits p").append(c).append(" for s;");
        }
        Rows.on(all.toString(), "many(7) = 12", "waiting(0,0) = 11", "waiting(11,0) = 0", "waiting(12,0) !8");
    }

    private static void order() {
        Check.says("All are numbered as they stand; what a PART names must be told ahead; "
                + "year, most, life must be told ahead of all persons.");
        Rows.on("name z;person y born 1701;name x worth 3;person w born 1702 of x;", "surname(1,0) = 3", "person(0,0) = 1701",
                "person(1,2) = 1");
        fault(3, "person a born 1700 of |s;name s;");
        fault(3, "person a born 1700;person b born 1700;child a of b |c;person c born 1700;");
        fault(3, "person a born 1700;wed a |b;person b born 1700;");
        fault(3, "person a born 1700;likes a |s;name s;");
        fault(3, "person a born 1700;waits a for |s;name s;");
        fault(3, "name s;waits |a for s;person a born 1700;");
        Rows.on("name s;year 1900;name t;most 3;name u;life 20;person a born 1900;", "many(4) = 1900", "many(5) = 3", "many(6) = 20");
        fault(2, "person a born 1700;|year 1900;");
        fault(2, "person a born 1700;|most 3;");
        fault(2, "person a born 1700;|life 20;");
    }

    private static void firstFault() {
        Check.says("FAULTS, the first along the text (of one TOKEN the least kind):");
        fault(6, "name a;name b;name c;name d;name e;name f;|name a worth 100 !");
        fault(5, "year 1900;|year 1900 !");
        fault(4, "year |999 999;");
        fault(3, "name a;name |a worth 100;");
        fault(2, "name |worth 100;");
        fault(1, "name |! worth 100;");
        // Of one token: a year behind a person (2) that is told already (5).
        fault(2, "year 1900;person a born 1700;|year 1900;");
        fault(2, "most 9;person a born 1700;|most 9;");
        fault(2, "life 80;person a born 1700;|life 80;");
        // A sign that begins nothing (1) where nothing like it can stand (2); a long number where no number can.
        fault(1, "name a |12345;");
        fault(1, "|12345;");
        fault(1, "name |12345;");
        // One who is taken as a name already (3) is no word that can't stand there.
        fault(3, "most 1;name s;person a born 1700 of s;person b born 1700 of |a;");
    }

    private static void faults1() {
        Check.says("1 no TOKEN begins so (a NUMBER of 5 digits and more: at its first).");
        fault(1, "year |18000;");
        fault(1, "year |00000;");
        fault(1, "name a worth |00001;");
        fault(1, "person a born |" + "1".repeat(40) + ";");
        fault(1, "person a born 1700 coins |99999;");
        fault(1, "name a;|#name b;");
        fault(1, "name a; |" + (char) 228 + ";");
    }

    private static void faults2() {
        Check.says("2 it can't stand there (the end: the text's length; a WORD of 9 letters and more where a NAME must stand; "
                + "year, most, life behind a person: at that WORD).");
        fault(2, "name a|");
        fault(2, "name a  \n |");
        fault(2, "name|");
        fault(2, "person a born|");
        fault(2, PEOPLE + "likes ann |");
        fault(2, "name |abcdefghi;");
        fault(2, "person |abcdefghi born 1700;");
        fault(2, "person a born 1700 of |abcdefghi;");
        fault(2, PEOPLE + "child |abcdefghi of ann bob;");
        fault(2, PEOPLE + "child ann of |abcdefghi bob;");
        fault(2, PEOPLE + "child ann of bob |abcdefghi;");
        fault(2, PEOPLE + "wed |abcdefghi ann;");
        fault(2, PEOPLE + "wed ann |abcdefghi;");
        fault(2, PEOPLE + "likes |abcdefghi;");
        fault(2, PEOPLE + "likes ann lee |abcdefghi;");
        fault(2, PEOPLE + "waits |abcdefghi for lee;");
        fault(2, PEOPLE + "waits ann for |abcdefghi;");
        fault(2, "|abcdefghi;");
        fault(2, PEOPLE + "|year;");
        fault(2, PEOPLE + "name x;|most 1;");
        fault(2, PEOPLE + "wed ann bob;|life x;");
        for (String word : "worth born of coins miser for die birth sell swap any when bears dash free loop end stop".split(" ")) {
            fault(2, "name a;|" + word + ";");
        }
    }

    private static void faults3() {
        Check.says("3 a new NAME that is taken; a NAME that is no such one told ahead.");
        fault(3, "name a;name b;name |a;");
        fault(3, "name b;person a born 1700;person |b born 1700;");
        fault(3, PEOPLE + "person x born 1700 of |ann;");
        fault(3, PEOPLE + "person x born 1700 of |x;");
        fault(3, PEOPLE + "child |who of ann bob;");
        fault(3, PEOPLE + "child |lee of ann bob;");
        fault(3, PEOPLE + "child ann of |lee bob;");
        fault(3, PEOPLE + "child ann of bob |who;");
        fault(3, PEOPLE + "wed |lee ann;");
        fault(3, PEOPLE + "wed ann |lee;");
        fault(3, PEOPLE + "likes |lee lee;");
        fault(3, PEOPLE + "likes ann |ann;");
        fault(3, PEOPLE + "likes ann lee |who;");
        fault(3, PEOPLE + "waits |lee for smith;");
        fault(3, PEOPLE + "waits ann for |ann;");
        // The town that was there before tells nothing.
        fault(3, "person x born 1700 of |old;");
        fault(3, "name n;likes |mia n;");
    }

    private static void faults4() {
        Check.says("4 a NUMBER that can't be.");
        fault(4, "year |0000;");
        fault(4, "most |9999;");
        fault(4, "life |0;");
        fault(4, "name a worth |100;");
        fault(4, "person a born |0;");
        fault(4, "person a born 1700 coins |9999;");
    }

    private static void faults5() {
        Check.says("5 year, most, life told already (at that WORD); one and itself (CHILD, parent; two parents; WED), "
                + "one who is WED, or WAITS already, a SURNAME twice in LIKES, or WAITED for by who bears it (at that NAME).");
        fault(5, "year 1900;most 2;life 30;|year 1900;");
        fault(5, "year 1900;most 2;life 30;|most 2;");
        fault(5, "life 30;year 1900;most 2;|life 30;");
        fault(5, PEOPLE + "child ann of |ann bob;");
        fault(5, PEOPLE + "child ann of bob |ann;");
        fault(5, PEOPLE + "child ann of bob |bob;");
        fault(5, PEOPLE + "wed cid |cid;");
        fault(5, PEOPLE + "wed ann bob;wed |ann cid;");
        fault(5, PEOPLE + "wed ann bob;wed |bob cid;");
        fault(5, PEOPLE + "wed ann bob;wed cid |ann;");
        fault(5, PEOPLE + "wed ann bob;wed cid |bob;");
        fault(5, PEOPLE + "wed ann bob;wed |ann bob;");
        fault(5, PEOPLE + "waits ann for lee;waits |ann for jones;");
        fault(5, PEOPLE + "waits ann for lee;waits |ann for lee;");
        fault(5, PEOPLE + "likes ann lee smith |lee;");
        fault(5, PEOPLE + "waits ann for |smith;");
        Rows.on(PEOPLE + "likes ann lee;likes bob lee;waits ann for jones;waits bob for smith;", "many(7) = 2");
    }

    private static void faults6() {
        Check.says("6 a seventh name, a 13th person (at that WORD); a SURNAME without a free PLACE (at its NAME, behind of).");
        fault(6, "name a;name b;name c;name d;name e;name f;|name");
        fault(6, Check.people(12, "") + "|person");
        fault(6, "most 1;name s;name t;person a born 1700 of s;person b born 1700 of |s coins 1000;");
        fault(6, "most 2;name s;" + Check.people(2, " of s") + "person b born 1700 of |s;");
        fault(6, "name s;" + Check.people(9, " of s") + "person b born 1700 of |s;");
        Rows.on("most 2;name s;name t;" + Check.people(2, " of s") + "person b born 1700 of t;", "surname(0,1) = 0", "surname(1,1) = 1");
    }

    private static void inPlaceOfThatAhead() {
        Check.says("A TOWN that is taken is there in place of that ahead; nobody is ABROAD or dead, no SURNAME was SOLD, "
                + "the QUEUE is as told (it is not gone through for that), there are no CENTURIES.");
        Rows.on("year 1900;most 1;life 30;name s worth 1;name t;person a born 1890 of s coins 9;person b born 1890 coins 9;"
                + "person c born 1890 of t miser;waits b for t;wed a b;child a of b c;likes a t;", "centuries: any; = 1",
                "sell(0,1) = 1", "abroad(1,true) = true", "die(2) = 2",
                "town: name x;name y;person d born 1700;person e born 1700;person f born 1700 of y;waits e for x;waits d for y; = 3",
                "many(0) = 2", "many(1) = 3", "many(2) = {0,1,2}", "many(3) = {0,1}", "many(4) = 1800", "many(5) = 9", "many(6) = 80",
                "many(7) = 2", "many(8) = {}", "many(9) = {}", "many(10) = 0", "surname(0,0) = 10", "surname(0,3) !8",
                "surname(1,3) !8", "person(0,3) = 0", "person(0,5) !8", "person(2,8) = 0", "liked(0,0) !8", "waiting(0,0) = 1",
                "waiting(1,0) = 0", "person(0,2) !8", "person(1,2) !8", "person(2,2) = 1", "live(0) !8", "mean(0,1) !8");
    }
}
