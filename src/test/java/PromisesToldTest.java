/** Promises 1 to 32, each by its own words: objects, trays, texts, what is done. */
public final class PromisesToldTest {
    private static final String TOWN = "year 1850;most 2;life 90;name s worth 30;name t;name u worth 0;person a born 1790 of s coins 40;"
            + "person b born 1800 of s;person c born 1820 of t coins 35;person d born 1835;person e born 1834 miser;wed a b;likes c u s;"
            + "waits d for s;child c of b a;";

    public static void main(String[] args) {
        promise1();
        promises2To4();
        promise5();
        promises6And7();
        promise8();
        promise9();
        promise10();
        promise11();
        promise12();
        promise13();
        promise14();
        promise15();
        promises16And17();
        promise18();
        promise19();
        promises20And21();
        promises22And23();
        promises24To26();
        promise27();
        promises28And29();
        promise30();
        promise31();
        promise32();
        Check.end();
    }

    private static void promise1() {
        Check.says("TRAYS are MISSING, a TOWN of nobody (YEAR 1800, MOST 9, LIFE 80), no CENTURIES, MARKS, an empty tape; STATUS 0, "
                + "the FRACTION 0 by 1.");
        Rows.on("", "status() = 0", "top() = 0", "bottom() = 1", "fault(0) = -1", "fault(1) = -1", "read(0,0) !3", "read(1,0) !3", "read(2,0) !3",
                "read(3,0) !3", "many(0) = 0", "many(1) = 0", "many(2) = {}", "many(3) = {}", "many(4) = 1800", "many(5) = 9", "many(6) = 80",
                "many(7) = 0", "many(8) = {}", "many(9) = {}", "many(10) = 0", "live(0) !8", "mean(0,1) !8", "lived(0) !8", "back() !8",
                "town(1) !5", "feed(1,2,3,4,5) = 20");
        Rows.on("", "town(0) = 0");
        Check.due("NONE", NineNames.NONE, -1);
    }

    private static void promises2To4() {
        Check.says("The STATUS of the latest call that has one.");
        Rows.on("", "status() = 0", "many(11) !5", "status() = 5", "status() = 5", "read(9,0) !1", "fault(0) = -1", "status() = 1",
                "feed(0,0,0,0,0) = 20", "top() = 0", "status() = 1", "many(0) = 0", "status() = 0");
        Check.says("The top of the FRACTION told latest.");
        Rows.on("name s;person a born 1700 of s;", "top() = 0", "luck(0,1,6) = true", "top() = 3", "luck(0,1,17) !5", "top() = 3",
                "year(1) = {0}", "top() = 3", "centuries: any; = 1", "top() = 3", "mean(0,1) = true", "top() = 0");
        Check.says("Its bottom, above 0.");
        Rows.on("name s;person a born 1700 of s;", "bottom() = 1", "luck(0,1,6) = true", "bottom() = 8", "luck(9,1,1) !2", "bottom() = 8",
                "mean(0,1) !8", "bottom() = 8", "luck(0,1,0) = true", "bottom() = 1");
    }

    private static void promise5() {
        Check.says("A TRAY is a row of so many numbers (at most 60; 5), all 0 (1; 5; 6).");
        Rows.on("", "tray(0,0,60) = true", "read(0,0) = 0", "read(0,59) = 0", "read(0,60) !4", "tray(0,0,61) !5", "read(0,59) = 0",
                "tray(1,3,0) = true", "read(1,0) !4", "write(0,5,7) = true", "tray(0,0,-1) !6", "read(0,5) = 7", "tray(0,1,6) = true",
                "read(0,5) = 0", "read(0,6) !4", "write(0,5,300) = true", "read(0,5) = 300", "tray(0,1,6) = true", "read(0,5) = 0",
                "tray(0,1,60) = true", "read(0,59) = 0", "tray(4,0,1) !1", "tray(0,4,1) !1", "tray(0,-1,1) !1", "tray(-1,0,1) !1");
        // What a longer row held is not seen again.
        Rows.on("", "tray(2,2,9) = true", "write(2,8,5) = true", "tray(2,2,3) = true", "tray(2,2,9) = true", "read(2,8) = 0");
    }

    private static void promises6And7() {
        Check.says("A number comes to a place of a TRAY (1; 3; 4).");
        Rows.on("", "write(0,0,1) !3", "tray(0,2,3) = true", "write(0,0,1) = true", "write(0,2,3) = true", "write(0,3,4) !4", "write(0,-1,4) !4",
                "write(4,0,4) !1", "write(-1,0,4) !1", "write(1,0,4) !3", "read(0,0) = 1", "read(0,1) = 0", "read(0,2) = 3",
                "write(0,0,9) = true", "read(0,0) = 9", "write(0,2147483647,1) !4", "write(0,-2147483648,1) !4");
        Check.says("The number in a place of a TRAY; STATUS tells NONE from -1 (1; 3; 4).");
        Rows.on("", "tray(0,0,2) = true", "write(0,1,-1) = true", "read(0,1) = -1", "read(0,2) !4", "read(1,0) !3", "read(5,0) !1",
                "read(0,1) = -1", "write(0,0,255) = true", "read(0,0) = -1");
    }

    private static void promise8() {
        Check.says("So many numbers from place i on of a TRAY come to place j on of another one, or the same, as they were: "
                + "1, 3 (either), 11, 6, 4, asked in this order.");
        String[] five = {"tray(0,1,5) = true", "write(0,0,1) = true", "write(0,1,2) = true", "write(0,2,3) = true", "write(0,3,4) = true",
            "write(0,4,5) = true", "tray(1,1,4) = true"};
        poured(five, "pour(0,1,1,2,2) = true", "read(1,0) = 0", "read(1,2) = 2", "read(1,3) = 3", "read(0,1) = 2");
        poured(five, "pour(0,0,1,0,4) = true", "read(1,0) = 1", "read(1,3) = 4");
        // As they were: over itself, ahead and back.
        poured(five, "pour(0,0,0,1,4) = true", "read(0,0) = 1", "read(0,1) = 1", "read(0,2) = 2", "read(0,3) = 3", "read(0,4) = 4");
        poured(five, "pour(0,1,0,0,4) = true", "read(0,0) = 2", "read(0,1) = 3", "read(0,2) = 4", "read(0,3) = 5", "read(0,4) = 5");
        poured(five, "pour(0,0,0,0,5) = true", "read(0,4) = 5");
        // None, to the very end.
        poured(five, "pour(0,0,1,0,0) = true", "read(1,0) = 0", "pour(0,5,1,4,0) = true", "pour(0,6,1,0,0) !4", "pour(0,0,1,5,0) !4",
                "pour(0,-1,1,0,0) !4", "pour(0,0,1,-1,0) !4");
        poured(five, "pour(0,0,1,0,5) !4", "pour(1,0,0,0,5) !4", "pour(0,2,1,0,4) !4", "pour(0,0,1,1,4) !4", "pour(0,0,1,0,-1) !6",
                "pour(0,0,2,0,-1) !3", "pour(2,0,0,0,-1) !3", "tray(2,2,5) = true", "pour(0,0,2,0,-1) !11", "pour(4,0,2,0,-1) !1",
                "pour(0,0,4,0,-1) !1", "pour(3,0,9,0,1) !1", "pour(0,2147483647,1,2147483647,2147483647) !4");
    }

    private static void poured(String[] first, String... rows) {
        String[] all = new String[first.length + rows.length];
        System.arraycopy(first, 0, all, 0, first.length);
        System.arraycopy(rows, 0, all, first.length, rows.length);
        Rows.on("", all);
    }

    private static void promise9() {
        Check.says("Twenty bytes come behind those on the tape, the highest of each int first: how many it has; "
                + "NONE if there would be more than 900.");
        NineNames x = new NineNames();
        // "most" "  3 " ";nam" "e q " "; !!", of which 18 bytes are read.
        Check.due("the first twenty", x.feed(0x6d6f7374, 0x20203320, 0x3b6e616d, 0x65207120, 0x3b202121), 20);
        Check.fine("the first 18 bytes", x, x.town(18), 0);
        Check.fine("most", x, x.many(5), 3);
        Check.fine("one surname", x, x.many(0), 1);
        for (int k = 1; k <= 45; k++) {
            Check.due("feed", x.feed(0x20202020, 0x20202020, 0x20202020, 0x20202020, k == 45 ? 0x2020203b : 0x20202020), 20 * k);
        }
        Check.due("more than 900", x.feed(0, 0, 0, 0, 0), -1);
        Check.due("more than 900", x.feed(0, 0, 0, 0, 0), -1);
        Check.refused("what was refused did not come", x, x.town(900), 10);
        Check.due("the last byte", x.fault(1), 899);
        Check.due("a sign that can't stand there", x.fault(0), 2);
        Check.due("behind none", x.feed(-1, -1, -1, -1, -1), 20);
        Check.refused("bytes above 127", x, x.town(20), 10);
        Check.due("begin no token", x.fault(0), 1);
    }

    private static void promise10() {
        Check.says("The first n bytes of the tape (which is empty then, but for 5) are the TOWN: how many PERSONS (5; 10: the old one stays).");
        NineNames x = new NineNames();
        Check.feed(x, "person a born 1700;person b born 1700;");
        Check.refused("-1", x, x.town(-1), 5);
        Check.refused("far below", x, x.town(Integer.MIN_VALUE), 5);
        Check.refused("more than there are", x, x.town(41), 5);
        Check.refused("far more", x, x.town(Integer.MAX_VALUE), 5);
        Check.fine("all 40, blanks too", x, x.town(40), 2);
        Check.refused("empty then", x, x.town(1), 5);
        Check.feed(x, "person a born 1700;person b born 1700;");
        Check.fine("the first 19", x, x.town(19), 1);
        Check.refused("the rest is gone", x, x.town(1), 5);
        Check.feed(x, "person a born 1700;person b born 1700;");
        Check.refused("cut within the second", x, x.town(30), 10);
        Check.fine("the old one stays", x, x.many(1), 1);
        Check.refused("empty then, too", x, x.town(1), 5);
        Check.fine("none of none", x, x.town(0), 0);
        Check.fine("nobody", x, x.many(1), 0);
    }

    private static void promise11() {
        Check.says("Likewise the CENTURIES: how many STEPS (5: above 300, too; 10).");
        NineNames x = Check.with(TOWN);
        Check.feed(x, "any;loop 2;die a;end;stop;" + " ".repeat(280));
        Check.refused("-1", x, x.centuries(-1), 5);
        Check.refused("301 of 320", x, x.centuries(301), 5);
        Check.refused("320 of 320", x, x.centuries(320), 5);
        Check.refused("more than there are", x, x.centuries(321), 5);
        Check.fine("300", x, x.centuries(300), 4);
        Check.refused("empty then", x, x.centuries(1), 5);
        Check.feed(x, "any;any;");
        Check.fine("the first 4", x, x.centuries(4), 1);
        Check.refused("the rest is gone", x, x.centuries(1), 5);
        Check.feed(x, "any;any;");
        Check.refused("cut", x, x.centuries(6), 10);
        Check.fine("the old ones stay", x, x.live(0), 1);
        Check.refused("empty then, too", x, x.centuries(1), 5);
        Check.fine("none", x, x.centuries(0), 0);
        Check.fine("of no steps", x, x.live(0), 0);
    }

    private static void promise12() {
        Check.says("Of the latest of these with STATUS 0 or 10, what 0: the FAULT (0 without one), 1: its place (NONE without). "
                + "NONE for others, and ahead of any.");
        Rows.on("", "fault(0) = -1", "fault(1) = -1", "fault(2) = -1", "town(1) !5", "fault(0) = -1", "centuries(301) !5", "fault(0) = -1",
                "town: name a; = 0", "fault(0) = 0", "fault(1) = -1", "fault(2) = -1", "fault(-1) = -1", "town: name a;most 0; !10",
                "fault(0) = 4", "fault(1) = 12", "fault(2) = -1", "many(99) !5", "fault(0) = 4", "town(9) !5", "fault(0) = 4", "fault(1) = 12",
                "centuries: any; = 1", "fault(0) = 0", "fault(1) = -1", "centuries: end; !10", "fault(0) = 2", "fault(1) = 0",
                "centuries(-1) !5", "fault(0) = 2", "town: name z; = 0", "fault(0) = 0", "fault(1) = -1", "fault(2147483647) = -1");
    }

    private static void promise13() {
        Check.says("SURNAMES (what 0), PERSONS (1); sets of PERSONS (1 for PERSON 0 ..) who live (2), live as DASH (3); the YEAR (4), MOST (5), "
                + "LIFE (6); how many WAIT (7); sets of PERSONS who are WED (8), ABROAD (9); all COINS of the living (10) (5).");
        Rows.on(TOWN, "many(0) = 3", "many(1) = 5", "many(2) = 31", "many(3) = {3,4}", "many(4) = 1850", "many(5) = 2", "many(6) = 90",
                "many(7) = 1", "many(8) = {0,1}", "many(9) = {}", "many(10) = 75", "many(11) !5", "many(-1) !5", "many(-2147483648) !5",
                "abroad(3,true) = true", "abroad(0,true) = true", "many(9) = {0,3}", "die(0) = 4", "many(1) = 5", "many(2) = {1,2,3,4}",
                "many(8) = {}", "many(9) = {3}", "many(10) = 35", "die(4) = 3", "many(3) = {3}", "many(7) = 1");
    }

    private static void promise14() {
        Check.says("Of a SURNAME, what 0: WORTH, 1: FREE PLACES, 2: the set of the living who bear it, 3: the YEAR in which it was SOLD latest "
                + "(8: never) (2; 5).");
        Rows.on(TOWN, "surname(0,0) = 30", "surname(1,0) = 10", "surname(2,0) = 0", "surname(0,1) = 0", "surname(1,1) = 1", "surname(2,1) = 2",
                "surname(0,2) = {0,1}", "surname(2,2) = {}", "surname(0,3) !8", "surname(3,0) !2", "surname(-1,0) !2", "surname(3,4) !2",
                "surname(0,4) !5", "surname(0,-1) !5", "sell(1,2) = 30", "surname(0,3) = 1850", "surname(0,2) = {0,2}", "year(9) = {}",
                "surname(0,3) = 1850", "earn(1,99) = 129", "sell(0,1) = 30", "surname(0,3) = 1859", "surname(1,3) !8", "die(2) = 4",
                "surname(0,2) = {1,3}");
    }

    private static void promise15() {
        Check.says("Of a PERSON, what 0: BORN, 1: AGE, 2: the SURNAME (of the dead: what they bore; 8: DASH), 3: COINS, 4: whom it is WED to "
                + "(8: nobody), 5: the first parent, 6: the second (8: not told), 7: the YEAR since when it is ABROAD (8: it is not), "
                + "8: 1 for a MISER, else 0, 9: 1 if it lives, else 0 (2; 5).");
        Rows.on(TOWN, "person(0,0) = 1790", "person(0,1) = 60", "person(0,2) = 0", "person(0,3) = 40", "person(0,4) = 1", "person(0,5) !8",
                "person(0,6) !8", "person(0,7) !8", "person(0,8) = 0", "person(0,9) = 1", "person(2,5) = 1", "person(2,6) = 0", "person(2,4) !8",
                "person(3,2) !8", "person(4,8) = 1", "person(5,0) !2", "person(-1,0) !2", "person(5,10) !2", "person(0,10) !5", "person(0,-1) !5",
                "abroad(0,true) = true", "person(0,7) = 1850", "year(2) = {}", "die(0) = 4", "year(2) = {}", "person(0,0) = 1790",
                "person(0,1) = 62", "person(0,2) = 0", "person(0,3) = 40", "person(0,4) !8", "person(1,4) !8", "person(0,7) !8",
                "person(0,9) = 0", "die(4) = 3", "person(4,2) !8", "person(4,8) = 1", "person(4,9) = 0");
    }

    private static void promises16And17() {
        Check.says("Of the QUEUE the k-th from 0 on, what 0: who, 1: for which SURNAME (5: what; 8: no such).");
        Rows.on(TOWN, "waiting(0,0) = 3", "waiting(0,1) = 0", "waiting(1,0) !8", "waiting(-1,0) !8", "waiting(2147483647,1) !8",
                "waiting(0,2) !5", "waiting(0,-1) !5", "waiting(9,2) !5", "ask(2,0) = 2", "waiting(1,0) = 2", "waiting(1,1) = 0",
                "leave(3) = true", "waiting(0,0) = 2", "waiting(1,0) !8");
        Check.says("The k-th SURNAME that a PERSON LIKES, k from 0 on (2; 8: no such).");
        Rows.on(TOWN, "liked(2,0) = 2", "liked(2,1) = 0", "liked(2,2) !8", "liked(2,-1) !8", "liked(2,2147483647) !8", "liked(0,0) !8",
                "liked(5,0) !2", "liked(-1,0) !2", "die(2) = 4", "liked(2,0) = 2");
    }

    private static void promise18() {
        Check.says("What all PERSONS bear comes to a TRAY (-1: DASH): how many (1; 3; 4).");
        Rows.on(TOWN, "copyNames(4) !1", "copyNames(-1) !1", "copyNames(0) !3", "tray(0,0,4) = true", "write(0,0,9) = true", "copyNames(0) !4",
                "read(0,0) = 9", "tray(1,3,5) = true", "copyNames(1) = 5", "read(1,0) = 0", "read(1,1) = 0", "read(1,2) = 1", "read(1,3) = -1",
                "read(1,4) = -1", "tray(2,2,7) = true", "write(2,5,8) = true", "die(2) = 4", "copyNames(2) = 5", "read(2,2) = 1", "read(2,5) = 8",
                "read(2,6) = 0");
        Rows.on("", "copyNames(0) !3", "tray(0,0,0) = true", "copyNames(0) = 0");
    }

    private static void promise19() {
        Check.says("So many YEARS (1 to 99): the set of PERSONS who died in them (5; 7: above 2,999).");
        Rows.on("year 2800;life 60;person a born 2741;person b born 2742;person c born 2799;person d born 2000 miser;", "year(0) !5", "year(100) !5",
                "year(-1) !5", "year(2147483647) !5", "year(-2147483648) !5", "year(1) = {0}", "year(99) = {1,2}", "many(4) = 2900",
                "year(99) = {}", "many(4) = 2999", "year(1) !7", "year(99) !7", "year(100) !5", "many(2) = {3}");
    }

    private static void promises20And21() {
        Check.says("DIE: how many live then (2; 9).");
        Rows.on(TOWN, "die(5) !2", "die(-1) !2", "die(0) = 4", "die(0) !9", "die(4) = 3", "die(1) = 2", "die(2) = 1", "die(3) = 0", "die(3) !9",
                "many(2) = {}");
        Check.says("BIRTH: the new PERSON (2; 9; 7: a 13th; 9 ahead of 7).");
        Rows.on(TOWN, "birth(0,5) !2", "birth(5,0) !2", "birth(-1,0) !2", "birth(0,0) !9", "birth(0,3) !9", "birth(3,0) !9", "birth(0,4) = 5",
                "birth(4,1) = 6", "birth(0,1) = 7", "birth(0,1) = 8", "birth(0,1) = 9", "birth(0,1) = 10", "birth(0,1) = 11", "birth(0,1) !7",
                "birth(0,3) !9", "birth(0,11) !9", "birth(0,12) !2", "die(11) = 11", "birth(0,1) !7", "many(1) = 12");
    }

    private static void promises22And23() {
        Check.says("WED by a way (2; 5; 9).");
        Rows.on(TOWN, "wed(5,0,0) !2", "wed(0,-1,0) !2", "wed(2,4,3) !5", "wed(2,4,-1) !5", "wed(0,4,0) !9", "wed(2,4,1) !9", "wed(4,2,2) !9",
                "wed(2,4,2) = true", "person(4,2) = 1", "person(2,4) = 4", "person(4,4) = 2", "many(8) = {0,1,2,4}");
        Rows.on(TOWN, "wed(4,2,1) = true", "person(4,2) = 1");
        Rows.on(TOWN, "wed(4,2,0) = true", "person(4,2) !8", "person(2,2) = 1");
        Check.says("They are WED no more (2; 9: they are not WED to each other).");
        Rows.on(TOWN, "part(0,5) !2", "part(5,5) !2", "part(-1,0) !2", "part(0,2) !9", "part(2,0) !9", "part(2,3) !9", "part(0,0) !9",
                "part(2,2) !9", "part(1,0) = true", "part(1,0) !9", "part(0,1) !9", "many(8) = {}", "wed(0,1,0) = true", "part(0,1) = true");
        // Two couples: one of each.
        Rows.on("person a born 1700;person b born 1700;person c born 1700;person d born 1700;wed a b;wed c d;", "part(0,2) !9", "part(0,3) !9",
                "part(1,2) !9", "part(0,1) = true", "many(8) = {2,3}");
    }

    private static void promises24To26() {
        Check.says("SELL: what it cost (2; 9).");
        Rows.on(TOWN, "sell(0,5) !2", "sell(5,0) !2", "sell(-1,0) !2", "sell(0,3) !9", "sell(3,0) !9", "sell(0,1) !9", "sell(0,0) !9",
                "sell(0,2) = 30", "sell(2,0) !9", "sell(1,0) !9");
        Rows.on("name s worth 0;name t worth 99;person a born 1700 of s;person b born 1700 of t;person c born 1700 coins 99;", "sell(0,1) = 0",
                "sell(1,2) !9", "ask(1,1) = 0", "sell(1,2) = 99", "person(2,3) = 0", "person(1,3) = 99");
        Check.says("SWAP (2; 9).");
        Rows.on(TOWN, "swap(0,5) !2", "swap(-1,0) !2", "swap(0,1) !9", "swap(3,4) !9", "swap(0,0) !9", "swap(3,3) !9", "swap(0,3) = true",
                "person(0,2) !8", "person(3,2) = 0", "many(7) = 0", "swap(2,0) = true", "person(2,2) !8", "person(0,2) = 1");
        Check.says("DUEL: who is DASH by it (2; 9).");
        Rows.on(TOWN, "duel(0,5) !2", "duel(-1,0) !2", "duel(0,2) !9", "duel(3,4) !9", "duel(0,0) !9", "duel(0,1) = 1", "person(1,2) !8",
                "person(3,2) = 0", "duel(0,3) = 3", "duel(0,3) !9");
    }

    private static void promise27() {
        Check.says("ABROAD from now on, or back (2; 9: dead, or it is so).");
        Rows.on(TOWN, "abroad(5,true) !2", "abroad(-1,false) !2", "abroad(0,false) !9", "abroad(0,true) = true", "abroad(0,true) !9",
                "abroad(0,false) = true", "abroad(0,false) !9", "abroad(4,true) = true", "die(4) = 4", "abroad(4,true) !9", "abroad(4,false) !9");
    }

    private static void promises28And29() {
        Check.says("ASK: how many WAIT then, behind the QUEUE (2; 9: dead, or he bears it, or WAITS for it).");
        Rows.on(TOWN, "ask(5,0) !2", "ask(0,3) !2", "ask(-1,0) !2", "ask(0,-1) !2", "ask(0,0) !9", "ask(3,0) !9", "ask(2,0) = 2", "ask(2,0) !9",
                "ask(4,1) = 2", "person(4,2) = 1", "ask(3,2) = 1", "person(3,2) = 2", "waiting(0,0) = 2", "die(4) = 4", "ask(4,0) !9");
        Check.says("One WAITS no more (2; 9: he does not).");
        Rows.on(TOWN, "leave(5) !2", "leave(-1) !2", "leave(0) !9", "leave(3) = true", "leave(3) !9", "many(7) = 0", "die(0) = 4",
                "person(3,2) !8", "ask(3,0) = 0", "leave(3) !9");
    }

    private static void promise30() {
        Check.says("One who lives gets COINS (1 to 999): how many he has (2; 5; 9: dead, above 9,999).");
        String[] rows = {"earn(5,1) !2", "earn(-1,0) !2", "earn(0,0) !5", "earn(0,1000) !5", "earn(0,-1) !5", "earn(0,2147483647) !5",
            "earn(3,1) = 1", "earn(0,999) = 1039", "earn(0,999) = 2038", "earn(0,999) = 3037", "earn(0,999) = 4036", "earn(0,999) = 5035",
            "earn(0,999) = 6034", "earn(0,999) = 7033", "earn(0,999) = 8032", "earn(0,999) = 9031", "earn(0,969) !9", "earn(0,968) = 9999",
            "earn(0,1) !9", "earn(0,999) !9", "person(0,3) = 9999", "die(3) = 4", "earn(3,1) !9", "earn(3,0) !5", "many(10) = 10034"};
        Rows.on(TOWN, rows);
    }

    private static void promise31() {
        Check.says("MOST from now on (1 to 9) (5). (Who bears a SURNAME keeps it.)");
        Rows.on(TOWN, "rule(0) !5", "rule(10) !5", "rule(-1) !5", "rule(2147483647) !5", "many(5) = 2", "rule(1) = true", "many(5) = 1",
                "surname(0,2) = {0,1}", "surname(0,1) = 0", "surname(2,1) = 1", "rule(9) = true", "many(5) = 9", "surname(0,2) = {0,1,3}",
                "surname(0,1) = 6", "many(7) = 0");
    }

    private static void promise32() {
        Check.says("A PERSON LIKES the SURNAMES that the first n (0 to 6) numbers of a TRAY tell (1; 2; 3; 4; 5: n, no SURNAME, one twice).");
        Rows.on(TOWN, "wish(0,4,0) !1", "wish(5,0,0) !2", "wish(0,0,0) !3", "tray(0,0,3) = true", "wish(0,0,4) !4", "wish(0,0,-1) !5",
                "write(0,0,2) = true", "write(0,1,1) = true", "wish(0,0,3) = true", "liked(0,0) = 2", "liked(0,1) = 1", "liked(0,2) = 0",
                "write(0,2,2) = true", "wish(0,0,3) !5", "liked(0,2) = 0", "write(0,2,3) = true", "wish(0,0,3) !5", "write(0,2,-1) = true",
                "wish(0,0,3) !5", "wish(0,0,2) = true", "liked(0,2) !8", "wish(0,0,0) = true", "liked(0,0) !8", "wish(2,0,1) = true",
                "liked(2,0) = 2", "liked(2,1) !8");
        Rows.on("name a;name b;name c;name d;name e;name f;person p born 1700;", "tray(1,3,8) = true", "write(1,0,5) = true", "write(1,1,4) = true",
                "write(1,2,3) = true", "write(1,3,2) = true", "write(1,4,1) = true", "write(1,6,6) = true", "wish(0,1,7) !5", "wish(0,1,8) !5",
                "wish(0,1,9) !4", "wish(0,1,6) = true", "liked(0,0) = 5", "liked(0,5) = 0", "liked(0,6) !8", "write(1,0,4294967296) = true",
                "wish(0,1,1) !5", "write(1,0,-9223372036854775808) = true", "wish(0,1,1) !5", "liked(0,0) = 5");
    }
}
