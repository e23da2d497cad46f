/** The fifth part of the Terms, sentence by sentence: of several statuses that hold the first, and what a refused call leaves. */
public final class TermsStatusTest {
    /** ann lives and is wed to bob, cid is dead, dot is a child; s is full, t was sold now, nobody bears u. */
    private static final String TOWN = "most 2;name s;name t worth 5;name u;person ann born 1750 of s coins 10;person bob born 1760 of s;"
            + "person cid born 1770 of t;person dot born 1795;person eve born 1770 of t coins 9;wed ann bob;waits dot for s;";

    public static void main(String[] args) {
        trays();
        texts();
        done();
        wishes();
        comes();
        weddingsAndRings();
        kinAndWorth();
        centuriesAndMarks();
        callsWithoutStatus();
        faultyTexts();
        theDead();
        Check.end();
    }

    private static void trays() {
        Check.says("STATUS of a call is the first of these that holds: 1 no such TRAY (or sort). 2 no such SURNAME, PERSON. "
                + "3 the TRAY is MISSING. 4 a place that the TRAY has not, or too few numbers. 5 a number that can't be. "
                + "6 below 0 (a TRAY's length). 7 one too many. 8 there is none. 9 it can't be. 10 a FAULT. 11 TRAYS of unlike sorts. 0 else.");
        Rows.on("", "tray(4,0,61) !1", "tray(4,0,-1) !1", "tray(-1,4,0) !1", "tray(0,4,61) !1", "tray(0,-1,-1) !1", "tray(0,0,61) !5",
                "tray(0,0,-1) !6", "tray(0,0,2147483647) !5", "tray(0,0,-2147483648) !6", "tray(0,3,60) = true",
                "write(4,99,0) !1", "write(1,99,0) !3", "write(1,-1,0) !3", "write(0,60,0) !4", "write(0,-1,0) !4", "write(0,59,1) = true",
                "read(4,99) !1", "read(-1,0) !1", "read(2,-1) !3", "read(0,60) !4", "read(0,-2147483648) !4", "read(0,59) = 1",
                "copyNames(4) !1", "copyNames(1) !3", "copyNames(0) = 0");
        // pour: 1, 3 (either), 11, 6, 4, in this order.
        Rows.on("", "tray(0,0,3) = true", "tray(1,1,3) = true", "tray(2,0,2) = true", "pour(4,9,3,9,-1) !1", "pour(3,9,4,9,-1) !1",
                "pour(0,9,-1,9,-1) !1", "pour(3,9,0,9,-1) !3", "pour(0,9,3,9,-1) !3", "pour(3,0,3,0,0) !3", "pour(0,9,1,9,-1) !11",
                "pour(1,9,0,9,-1) !11", "pour(0,9,2,9,-1) !6", "pour(0,0,2,0,-2147483648) !6", "pour(0,0,2,0,3) !4", "pour(2,0,0,0,3) !4",
                "pour(0,-1,2,0,1) !4", "pour(0,0,2,-1,1) !4", "pour(0,3,2,0,1) !4", "pour(0,0,2,2,1) !4", "pour(0,1,2,1,2147483647) !4",
                "pour(0,2147483647,2,0,1) !4", "pour(0,0,2,2147483647,1) !4", "pour(0,1,2,0,2) = true");
    }

    private static void texts() {
        Check.says("STATUS of a call is the first of these that holds:");
        Rows.on(TOWN, "town(-1) !5", "town(1) !5", "centuries(-1) !5", "centuries(1) !5", "many(-1) !5", "many(11) !5", "surname(3,9) !2",
                "surname(-1,-1) !2", "surname(0,4) !5", "surname(0,-1) !5", "surname(2,3) !8", "person(5,99) !2", "person(-1,-1) !2",
                "person(0,10) !5", "person(0,-1) !5", "person(3,2) !8", "waiting(9,2) !5", "waiting(-1,-1) !5", "waiting(1,0) !8",
                "waiting(-1,1) !8", "liked(5,-1) !2", "liked(0,0) !8", "liked(0,-1) !8", "tray(0,0,4) = true", "copyNames(0) !4",
                "copyNames(-1) !1", "copyNames(3) !3");
    }

    private static void done() {
        Check.says("STATUS of a call is the first of these that holds:");
        Rows.on("year 2999;", "year(0) !5", "year(100) !5", "year(-1) !5", "year(99) !7", "year(1) !7");
        Rows.on(TOWN, "die(2) = 4", "die(5) !2", "die(2) !9", "birth(2,9) !2", "birth(9,2) !2", "birth(2,2) !9", "birth(0,3) !9",
                "wed(9,9,9) !2", "wed(0,5,-1) !2", "wed(2,2,3) !5", "wed(0,1,-1) !5", "wed(0,4,0) !9", "part(5,5) !2", "part(0,-1) !2",
                "part(0,4) !9", "sell(5,0) !2", "sell(2,-1) !2", "sell(2,0) !9", "swap(2,5) !2", "swap(2,0) !9", "duel(5,2) !2",
                "duel(0,2) !9", "abroad(5,true) !2", "abroad(2,true) !9", "abroad(0,false) !9", "ask(2,3) !2", "ask(5,0) !2", "ask(0,-1) !2",
                "ask(0,0) !9", "leave(5) !2", "leave(2) !9", "earn(5,0) !2", "earn(2,0) !5", "earn(2,1000) !5", "earn(2,1) !9",
                "rule(0) !5", "rule(10) !5", "rule(-1) !5");
        StringBuilder twelve = new StringBuilder();
        for (char c = 'a'; c <= 'l'; c++) {
            twelve.append("person p").append(c).append(" born 1780;");
        }
        Rows.on(twelve.toString(), "birth(0,12) !2", "birth(0,0) !9", "birth(0,1) !7", "die(0) = 11", "birth(0,1) !9", "birth(1,2) !7");
    }

    private static void wishes() {
        Check.says("STATUS of a call is the first of these that holds:");
        Rows.on(TOWN, "wish(5,4,-1) !1", "wish(0,-1,0) !1", "wish(5,0,-1) !2", "wish(-1,0,9) !2", "wish(0,0,9) !3", "wish(0,0,-1) !3",
                "tray(0,0,3) = true", "wish(0,0,4) !4", "wish(0,0,7) !4", "wish(0,0,2147483647) !4", "wish(0,0,-1) !5",
                "wish(0,0,-2147483648) !5", "wish(0,0,2) !5", "write(0,1,3) = true", "wish(0,0,3) !5", "wish(0,0,1) = true",
                "tray(1,0,60) = true", "wish(0,1,7) !5", "wish(0,1,60) !5", "wish(0,1,61) !4", "wish(5,2,0) !2", "wish(0,2,0) !3");
    }

    private static void comes() {
        Check.says("STATUS of a call is the first of these that holds:");
        Rows.on(TOWN, "turn(5) !2", "turn(0) !8", "gone(3) !2", "gone(-1) !2", "livingIn(-1) !5", "livingIn(151) !5", "bearsIn(5,151) !2",
                "bearsIn(-1,-1) !2", "bearsIn(3,151) !5", "bearsIn(3,-1) !5", "bearsIn(3,0) !8", "dashesIn(-1) !5", "dashesIn(151) !5",
                "luck(3,13,17) !2", "luck(-1,0,0) !2", "luck(0,13,0) !5", "luck(0,-1,0) !5", "luck(0,0,17) !5", "luck(0,0,-1) !5");
    }

    private static void weddingsAndRings() {
        Check.says("STATUS of a call is the first of these that holds:");
        Rows.on(TOWN, "canWed(5,0,3) !2", "canWed(0,-1,-1) !2", "canWed(0,0,3) !5", "canWed(0,0,-1) !5", "couplesOf(3) !2", "couplesOf(-1) !2",
                "match(5) !2", "match(0) !8", "suitors(5) !2", "suitors(-1) !2", "ringed(5) !2", "ringed(-1) !2", "ringed(3) !8");
    }

    private static void kinAndWorth() {
        Check.says("STATUS of a call is the first of these that holds:");
        Rows.on(TOWN, "kin(5,5) !2", "kin(0,-1) !2", "kin(0,1) !8", "children(5) !2", "children(-1) !2", "elders(5) !2", "elders(-1) !2",
                "near(5,5) !2", "near(-1,-1) !2", "near(0,0) !9", "parents(5) !2", "parents(-1) !2", "couldBe(5,0,1) !2", "couldBe(0,5,1) !2",
                "couldBe(0,1,5) !2", "couldBe(-1,-1,-1) !2", "wealth(5) !2", "wealth(-1) !2", "die(2) = 4", "wealth(2) !9", "buyers(3) !2",
                "buyers(-1) !2", "recount(0) !5", "recount(10) !5", "recount(-1) !5");
    }

    private static void centuriesAndMarks() {
        Check.says("STATUS of a call is the first of these that holds:");
        Rows.on(TOWN, "live(-1) !5", "live(10000) !5", "live(0) !8", "lived(-1) !5", "lived(5) !5", "lived(0) !8", "mean(-1,1) !5",
                "mean(0,0) !5", "mean(0,21) !5", "mean(9999,2) !5", "mean(9981,20) !5", "mean(0,1) !8", "mean(9980,20) !8", "back() !8",
                "mark() = 1", "mark() = 2", "mark() = 3", "mark() !7", "back() = 2", "mark() = 3", "mark() !7");
    }

    private static void callsWithoutStatus() {
        Check.says("status(), fault(), feed(), top(), bottom() have none.");
        NineNames x = Check.with(TOWN);
        x.person(0, 10);
        for (int k = 0; k < 50; k++) {
            x.status();
            x.fault(k - 3);
            x.feed(k, k, k, k, k);
            x.top();
            x.bottom();
            Check.due("the status of the call ahead", x.status(), 5);
        }
        x.many(0);
        x.feed(0, 0, 0, 0, 0);
        Check.due("the status of the call ahead", x.status(), 0);
    }

    private static void faultyTexts() {
        Check.says("A call with another STATUS than 0 gives NONE, or false, and changes nothing but STATUS "
                + "(but town(), centuries() with 10 the tape, and what fault() tells).");
        Rows.on(TOWN, "centuries: year 3; = 1", "town: name a;name a; !10", "fault(0) = 3", "fault(1) = 12", "many(1) = 5",
                "surname(0,2) = {0,1}", "centuries: loop 2; !10", "fault(0) = 2", "fault(1) = 7", "live(0) = 1", "many(4) = 1803",
                "town(1) !5", "fault(0) = 2", "fault(1) = 7", "centuries(301) !5", "fault(0) = 2", "centuries:   = 0", "fault(0) = 0",
                "fault(1) = -1", "fault(2) = -1", "fault(-1) = -1");
        // Centuries that were refused are not those by which all is lived, or a mean is told.
        Rows.on(TOWN, "centuries: die dot; = 1", "centuries: year 1;loop 2; !10", "mean(0,3) = true", "top() = 0", "bottom() = 1", "live(0) = 1",
                "many(2) = {0,1,2,4}", "many(4) = 1800", "mark() = 1", "centuries: year 1;year 1; = 2", "back() = 0", "live(0) = 1", "lived(0) = 1");
        NineNames x = Check.with(TOWN);
        Check.feed(x, "name");
        Check.refused("5 leaves the tape", x, x.town(21), 5);
        Check.due("20 and 20", x.feed(0, 0, 0, 0, 0), 40);
        Check.refused("10 empties it", x, x.town(40), 10);
        Check.due("none and 20", x.feed(0, 0, 0, 0, 0), 20);
        Check.refused("10 empties it", x, x.centuries(3), 10);
        Check.due("none and 20", x.feed(0x61616161, 0, 0, 0, 0), 20);
        Check.fine("0 of 20 bytes", x, x.centuries(0), 0);
        Check.due("none and 20", x.feed(0x61616161, 0, 0, 0, 0), 20);
    }

    private static void theDead() {
        Check.says("Where one who must live is dead: 9, but where a call's words tell it else.");
        Rows.on(TOWN, "tray(0,0,1) = true", "centuries: die cid;birth cid eve; = 2", "die(2) = 4", "die(2) !9", "birth(2,4) !9", "birth(4,2) !9",
                "wed(2,4,0) !9", "wed(4,2,1) !9", "part(2,0) !9", "part(2,2) !9", "sell(2,0) !9", "sell(4,2) !9", "swap(2,0) !9",
                "swap(0,2) !9", "duel(2,4) !9", "duel(4,2) !9", "abroad(2,true) !9", "abroad(2,false) !9", "ask(2,2) !9", "leave(2) !9",
                "earn(2,1) !9", "wealth(2) !9", "turn(2) !8", "bearsIn(2,0) !8", "bearsIn(2,9) !8", "canWed(2,4,0) = 0", "canWed(4,2,0) = 0",
                "suitors(2) = {}", "match(2) !8", "ringed(2) !8", "kin(2,2) = 0", "near(2,4) = 0", "children(2) = {}", "elders(2) = {}",
                "parents(2) = 0", "couldBe(2,0,1) = 0", "liked(2,0) !8", "person(2,0) = 1770", "person(2,1) = 30", "person(2,2) = 1",
                "person(2,3) = 0", "person(2,4) !8", "person(2,7) !8", "person(2,8) = 0", "person(2,9) = 0", "buyers(1) = {0}", "live(0) = 2",
                "lived(0) = 2");
    }
}
