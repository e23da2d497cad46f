/** Promises 9 to 18: the tape, the town's text with its faults, and what is told of it. */
public final class TextsTest {
    private static final String NAMES = "name smith worth 30; name jones; name lee worth 0;";
    private static final String PEOPLE = NAMES + "person ann born 1750 of smith coins 40;"
            + "person bob born 1760 of jones; person cid born 1780 miser;";

    public static void main(String[] args) {
        tape();
        takenTowns();
        strangeTokens();
        misplacedTokens();
        wrongNames();
        wrongNumbers();
        toldAgain();
        tooMany();
        aTownInPlaceOfAnother();
        whatIsTold();
        copiedNames();
        Check.end();
    }

    private static void fault(String text, int kind, int place) {
        NineNames x = Check.with("name old; person mia born 1799 of old;");
        Check.refused("town: " + text, x, Check.town(x, text), 10);
        Check.due("fault of " + text, x.fault(0), kind);
        Check.due("its place in " + text, x.fault(1), place);
        Check.due("no more to be told", x.fault(2), -1);
        Check.fine("the old one stays", x, x.many(1), 1);
        Check.due("the tape is empty", x.feed(0, 0, 0, 0, 0), 20);
    }

    /** The fault stands at a mark, which is taken out of the text. */
    private static void faultAt(String text, int kind) {
        int place = text.indexOf('|');
        fault(text.substring(0, place) + text.substring(place + 1), kind, place);
    }

    private static NineNames taken(String text, int persons) {
        NineNames x = new NineNames();
        Check.fine("town: " + text, x, Check.town(x, text), persons);
        Check.due("its fault", x.fault(0), 0);
        Check.due("no place", x.fault(1), -1);
        return x;
    }

    private static void tape() {
        NineNames x = new NineNames();
        for (int k = 1; k <= 45; k++) {
            Check.due("feed", x.feed(0x20202020, 0x20202020, 0x20202020, 0x20202020, 0x20202020), 20 * k);
        }
        Check.due("feed beyond 900", x.feed(1, 1, 1, 1, 1), -1);
        Check.refused("town(-1)", x, x.town(-1), 5);
        Check.refused("town(901)", x, x.town(901), 5);
        Check.refused("centuries(-1)", x, x.centuries(-1), 5);
        Check.refused("centuries(301)", x, x.centuries(301), 5);
        Check.due("no fault was told", x.fault(0), -1);
        Check.due("the tape is as it was", x.feed(1, 1, 1, 1, 1), -1);
        Check.fine("900 blanks are nobody", x, x.town(900), 0);
        Check.due("the tape is empty then", x.feed(0x6e616d65, 0x20616220, 0x3b202020, 0x21212121, -1), 20);
        Check.fine("the first 9 alone", x, x.town(9), 0);
        Check.fine("their surname", x, x.many(0), 1);
        Check.refused("nothing is left", x, x.town(1), 5);
        Check.fine("nothing is a town of nobody", x, x.town(0), 0);
        Check.fine("without surnames", x, x.many(0), 0);
        Check.due("highest first", x.feed(0x736d6974, 0, 0, 0, 0), 20);
        Check.refused("smit", x, x.town(4), 10);
        Check.due("a word that can't stand there", x.fault(0), 2);
    }

    private static void takenTowns() {
        taken("", 0);
        taken(" \n  ", 0);
        NineNames x = taken("year1000;most 0009;life\n17;name abcdefgh worth 99;person a born 1000of abcdefgh coins 999miser;", 1);
        Check.fine("year", x, x.many(4), 1000);
        Check.fine("most", x, x.many(5), 9);
        Check.fine("life", x, x.many(6), 17);
        Check.fine("worth", x, x.surname(0, 0), 99);
        Check.fine("coins", x, x.person(0, 3), 999);
        Check.fine("miser", x, x.person(0, 8), 1);
        x = taken("year 2999;most 1;life 120;name n worth 0;person a born 2999 coins 0;", 1);
        Check.fine("born now", x, x.person(0, 1), 0);
        x = taken("name n; most 2; name m; life 30; person a born 1800; name k;", 1);
        Check.fine("names may stand anywhere", x, x.many(0), 3);
        x = taken(PEOPLE + "likes ann lee smith; likes ann; child cid of ann bob; child cid of bob ann;", 3);
        Check.refused("likes told again are the latest", x, x.liked(0, 0), 8);
        Check.fine("parents told again", x, x.person(2, 5), 1);
        Check.fine("the second parent", x, x.person(2, 6), 0);
        x = taken(PEOPLE + "child ann of bob cid; child bob of ann cid;", 3);
        Check.fine("each other's child", x, x.elders(0), Check.set(0, 1, 2));
    }

    private static void strangeTokens() {
        faultAt("name a;|!", 1);
        faultAt("|Name a;", 1);
        faultAt("name a;|\t", 1);
        faultAt("name |" + (char) 233, 1);
        faultAt("year |12345;", 1);
        faultAt("year 1800;most |00001;", 1);
        faultAt("name a worth 10|.", 1);
        faultAt("name a|\0", 1);
        // An earlier fault of a greater kind comes first.
        faultAt("year |999; !", 4);
        // A strange sign is strange wherever it stands.
        faultAt("name |-;", 1);
    }

    private static void misplacedTokens() {
        faultAt("|;", 2);
        faultAt("|smith;", 2);
        faultAt("|1800;", 2);
        faultAt("|<", 2);
        faultAt("|stop;", 2);
        faultAt("|die ann;", 2);
        faultAt("year 1800|", 2);
        faultAt("year 1800   |", 2);
        faultAt("year |;", 2);
        faultAt("year |x;", 2);
        faultAt("name |worth;", 2);
        faultAt("name |loop;", 2);
        faultAt("name |1;", 2);
        faultAt("name |abcdefghi;", 2);
        faultAt("name a |b;", 2);
        faultAt("name a worth |;", 2);
        faultAt("name a worth 1 |worth 1;", 2);
        faultAt("name a |=", 2);
        faultAt("person a |of b;", 2);
        faultAt("person a born |b;", 2);
        faultAt(NAMES + "person a born 1700 coins 1 |of lee;", 2);
        faultAt("person a born 1700 miser |coins 1;", 2);
        faultAt("person a born 1700 miser |miser;", 2);
        faultAt(PEOPLE + "child ann |bob cid;", 2);
        faultAt(PEOPLE + "child ann of bob |;", 2);
        faultAt(PEOPLE + "child ann of bob cid |ann;", 2);
        faultAt(PEOPLE + "wed ann |;", 2);
        faultAt(PEOPLE + "likes |;", 2);
        faultAt(PEOPLE + "likes ann smith |abcdefghi;", 2);
        faultAt(PEOPLE + "likes ann |for;", 2);
        faultAt(PEOPLE + "waits ann |smith;", 2);
        faultAt(PEOPLE + "waits ann for |;", 2);
        faultAt(PEOPLE + "|year 1900;", 2);
        faultAt(PEOPLE + "|most 2;", 2);
        faultAt(PEOPLE + "|life 20;", 2);
        // Told already, and behind a person: the least kind.
        faultAt("year 1900; person a born 1800; |year 1900;", 2);
        for (String word : "year most life name worth person born of coins miser child wed likes waits for die birth sell swap any when bears dash free loop end stop".split(" ")) {
            faultAt("name |" + word + ";", 2);
        }
        taken("name yea; name years; name mos; name ends;", 0);
    }

    private static void wrongNames() {
        faultAt("name a; name |a;", 3);
        faultAt("name a; person |a born 1700;", 3);
        faultAt("person a born 1700; name |a;", 3);
        faultAt("person a born 1700; person |a born 1700;", 3);
        faultAt("person a born 1700 of |a;", 3);
        faultAt(PEOPLE + "person x born 1700 of |bob;", 3);
        faultAt(PEOPLE + "person x born 1700 of |who;", 3);
        faultAt(PEOPLE + "child |smith of ann bob;", 3);
        faultAt(PEOPLE + "child ann of |who bob;", 3);
        faultAt(PEOPLE + "child ann of bob |lee;", 3);
        faultAt(PEOPLE + "wed |who ann;", 3);
        faultAt(PEOPLE + "wed ann |who;", 3);
        faultAt(PEOPLE + "likes |smith;", 3);
        faultAt(PEOPLE + "likes ann |bob;", 3);
        faultAt(PEOPLE + "likes ann smith |who;", 3);
        faultAt(PEOPLE + "waits |who for smith;", 3);
        faultAt(PEOPLE + "waits ann for |bob;", 3);
        // The old town's names are none of this one's.
        faultAt("person x born 1700 of |old;", 3);
        taken("name old; person mia born 1700 of old;", 1);
    }

    private static void wrongNumbers() {
        faultAt("year |999;", 4);
        faultAt("year |3000;", 4);
        faultAt("most |0;", 4);
        faultAt("most |10;", 4);
        faultAt("life |16;", 4);
        faultAt("life |121;", 4);
        faultAt("name a worth |100;", 4);
        faultAt("person a born |999;", 4);
        faultAt("person a born |1801;", 4);
        faultAt("year 1900; person a born |1901;", 4);
        faultAt("person a born 1800 coins |1000;", 4);
        taken("year 1900; person a born 1900; person b born 1000;", 2);
    }

    private static void toldAgain() {
        faultAt("year 1900; |year 1900;", 5);
        faultAt("most 3; |most 3;", 5);
        faultAt("life 30; |life !", 5);
        faultAt(PEOPLE + "child ann of |ann bob;", 5);
        faultAt(PEOPLE + "child ann of bob |ann;", 5);
        faultAt(PEOPLE + "child ann of bob |bob;", 5);
        faultAt(PEOPLE + "wed ann |ann;", 5);
        faultAt(PEOPLE + "wed ann bob; wed cid |ann;", 5);
        faultAt(PEOPLE + "wed ann bob; wed |bob cid;", 5);
        faultAt(PEOPLE + "likes ann smith lee |smith;", 5);
        faultAt(PEOPLE + "waits ann for lee; waits |ann for jones;", 5);
        faultAt(PEOPLE + "waits ann for |smith;", 5);
    }

    private static void tooMany() {
        String six = "name a;name b;name c;name d;name e;name f;";
        taken(six, 0);
        faultAt(six + "|name a;", 6);
        StringBuilder twelve = new StringBuilder("name s;");
        for (char c = 'a'; c <= 'l'; c++) {
            twelve.append("person p").append(c).append(" born 1700;");
        }
        taken(twelve.toString(), 12);
        faultAt(twelve + "|person pa born 1700;", 6);
        faultAt("most 1;name s;name t;person a born 1700 of s;person b born 1700 of t;person c born 1700 of |s;", 6);
        StringBuilder nine = new StringBuilder("name s;");
        for (char c = 'a'; c <= 'i'; c++) {
            nine.append("person p").append(c).append(" born 1700 of s;");
        }
        taken(nine.toString(), 9);
        faultAt(nine + "person x born 1700 of |s;", 6);
    }

    private static void aTownInPlaceOfAnother() {
        NineNames x = Check.with(PEOPLE + "waits bob for smith;", "any;");
        x.abroad(1, true);
        x.sell(0, 1);
        x.die(2);
        x.rule(1);
        Check.refused("a faulty one", x, Check.town(x, "name"), 10);
        Check.fine("centuries stay", x, x.live(0), 1);
        Check.fine("a good one", x, Check.town(x, PEOPLE + "waits cid for lee; waits bob for lee;"), 3);
        Check.refused("no centuries", x, x.live(0), 8);
        x.mark();
        Check.fine("nobody is what another one was", x, Check.town(x, NAMES + "person d born 1700;person e born 1700;"
                + "person f born 1700;"), 3);
        for (int p = 0; p < 3; p++) {
            Check.fine("no coins", x, x.person(p, 3), 0);
            Check.fine("no miser", x, x.person(p, 8), 0);
            Check.refused("dash", x, x.person(p, 2), 8);
            Check.refused("no likes", x, x.liked(p, 0), 8);
        }
        x.back();
        Check.fine("all live", x, x.many(2), 7);
        Check.fine("nobody is abroad", x, x.many(9), 0);
        Check.refused("never sold", x, x.surname(0, 3), 8);
        Check.fine("most anew", x, x.many(5), 9);
        Check.fine("the queue as told", x, x.many(7), 2);
        Check.fine("its first", x, x.waiting(0, 0), 2);
        Check.fine("its second", x, x.waiting(1, 0), 1);
    }

    private static void whatIsTold() {
        NineNames x = Check.with("year 1850;most 2;life 90;" + PEOPLE
                + "wed ann cid; likes bob lee smith; waits cid for lee; waits bob for smith; child bob of cid ann;");
        int[] many = {3, 3, 7, 4, 1850, 2, 90, 2, 5, 0, 40};
        for (int what = 0; what < many.length; what++) {
            Check.fine("many(" + what + ")", x, x.many(what), many[what]);
        }
        Check.refused("many(-1)", x, x.many(-1), 5);
        Check.refused("many(11)", x, x.many(11), 5);
        Check.fine("worth", x, x.surname(0, 0), 30);
        Check.fine("worth without", x, x.surname(1, 0), 10);
        Check.fine("free", x, x.surname(0, 1), 1);
        Check.fine("free of all", x, x.surname(2, 1), 2);
        Check.fine("bearers", x, x.surname(1, 2), 2);
        Check.refused("never sold", x, x.surname(1, 3), 8);
        Check.refused("surname(3)", x, x.surname(3, 9), 2);
        Check.refused("surname(-1)", x, x.surname(-1, 0), 2);
        Check.refused("surname what", x, x.surname(0, 4), 5);
        Check.refused("surname what -1", x, x.surname(0, -1), 5);
        int[] ann = {1750, 100, 0, 40, 2, -1, -1, -1, 0, 1};
        int[] bob = {1760, 90, 1, 0, -1, 2, 0, -1, 0, 1};
        int[] cid = {1780, 70, -1, 0, 0, -1, -1, -1, 1, 1};
        for (int what = 0; what < 10; what++) {
            told("ann", x, x.person(0, what), ann[what]);
            told("bob", x, x.person(1, what), bob[what]);
            told("cid", x, x.person(2, what), cid[what]);
        }
        Check.refused("person(3)", x, x.person(3, 99), 2);
        Check.refused("person(-1)", x, x.person(-1, 0), 2);
        Check.refused("person what", x, x.person(0, 10), 5);
        Check.fine("first waits", x, x.waiting(0, 0), 2);
        Check.fine("for lee", x, x.waiting(0, 1), 2);
        Check.fine("second waits", x, x.waiting(1, 0), 1);
        Check.fine("for smith", x, x.waiting(1, 1), 0);
        Check.refused("no third", x, x.waiting(2, 0), 8);
        Check.refused("none below", x, x.waiting(-1, 0), 8);
        Check.refused("waiting what", x, x.waiting(9, 2), 5);
        Check.fine("dearest", x, x.liked(1, 0), 2);
        Check.fine("next", x, x.liked(1, 1), 0);
        Check.refused("no more", x, x.liked(1, 2), 8);
        Check.refused("far more", x, x.liked(1, 999), 8);
        Check.refused("none below", x, x.liked(1, -1), 8);
        Check.refused("nobody's", x, x.liked(3, 0), 2);
        x.abroad(1, true);
        Check.fine("abroad", x, x.many(9), 2);
        Check.fine("since when", x, x.person(1, 7), 1850);
        x.die(0);
        Check.fine("the dead one's age stays", x, x.person(0, 1), 100);
        Check.fine("what he bore", x, x.person(0, 2), 0);
        Check.fine("he is dead", x, x.person(0, 9), 0);
        Check.fine("living", x, x.many(2), 6);
        Check.fine("nobody is wed", x, x.many(8), 0);
        Check.fine("coins of the living", x, x.many(10), 0);
        Check.fine("persons", x, x.many(1), 3);
        x.year(1);
        Check.fine("the dead one's age stays", x, x.person(0, 1), 100);
    }

    private static void told(String who, NineNames x, int got, int want) {
        Check.due(who, got, want);
        Check.due(who + ", status", x.status(), want == -1 ? 8 : 0);
    }

    private static void copiedNames() {
        NineNames x = Check.with(PEOPLE);
        Check.refused("no tray", x, x.copyNames(4), 1);
        Check.refused("missing", x, x.copyNames(0), 3);
        x.tray(0, 0, 2);
        x.write(0, 0, 7);
        Check.refused("too few", x, x.copyNames(0), 4);
        Check.fine("nothing came", x, x.read(0, 0), 7);
        x.tray(0, 0, 4);
        x.write(0, 3, 7);
        x.die(1);
        Check.fine("all", x, x.copyNames(0), 3);
        long[] want = {0, 1, -1, 7};
        for (int k = 0; k < 4; k++) {
            Check.fine("copied", x, x.read(0, k), want[k]);
        }
        NineNames y = new NineNames();
        y.tray(2, 3, 0);
        Check.fine("of nobody", y, y.copyNames(2), 0);
    }
}
