/** The third part of the Terms, sentence by sentence: forecasts, luck, couples, rings, kin, recount. */
public final class TermsComesTest {
    public static void main(String[] args) {
        forecasts();
        turns();
        goings();
        luck();
        couples();
        couplesOfASurname();
        matches();
        whoTakesPart();
        pointing();
        ownNames();
        ringsRound();
        ringsInOrder();
        kin();
        couldBe();
        couldBeOfDash();
        recount();
        recountInOrder();
        Check.end();
    }

    private static void forecasts() {
        Check.says("FORECAST: as if only YEARS go by (2,999 does not matter).");
        Rows.on("year 2999;life 30;most 1;name s;person a born 2980 of s;person b born 2995;person c born 2999 miser;waits b for s;"
                + "waits c for s;", "year(1) !7", "livingIn(10) = {0,1,2}", "livingIn(11) = {1,2}", "livingIn(25) = {1,2}",
                "livingIn(26) = {2}", "livingIn(150) = {2}", "turn(1) = 11", "turn(2) = 26", "bearsIn(1,11) = 0", "bearsIn(1,10) !8",
                "bearsIn(2,150) = 0", "dashesIn(0) = 2", "dashesIn(11) = 1", "dashesIn(26) = 0", "gone(0) !8", "many(4) = 2999");
        // In 0 years all is as it is: the queue as told is not gone through, and those past their years live.
        Rows.on("life 30;name s;person a born 1700;person b born 1790;waits b for s;", "livingIn(0) = {0,1}", "bearsIn(1,0) !8",
                "dashesIn(0) = 2", "livingIn(1) = {1}", "bearsIn(1,1) = 0", "dashesIn(1) = 0");
        // Names of who is abroad lapse in it, too.
        Rows.on("name s;person a born 1780 of s;", "abroad(0,true) = true", "year(2) = {}", "bearsIn(0,4) = 0", "bearsIn(0,5) !8",
                "gone(0) = 5", "dashesIn(5) = 1", "person(0,2) = 0");
    }

    private static void turns() {
        Check.says("TURN: in how many YEARS (1 to 150) a PERSON that WAITS bears that SURNAME.");
        String town = "life 120;most 1;name s;name t;person a born 1800 of s;person b born 1700 miser;person c born 1799 of t miser;";
        Rows.on(town + "waits b for s;", "turn(1) = 120", "turn(0) !8");
        Rows.on(town + "waits b for t;", "turn(1) !8");
        Rows.on("name s;person a born 1799;waits a for s;", "turn(0) = 1", "earn(0,1) = 1", "turn(0) !8");
        Rows.on("life 50;most 1;name s;person a born 1760 of s;person b born 1790;person c born 1795;waits b for s;waits c for s;",
                "turn(1) = 10", "turn(2) = 40", "year(9) = {}", "turn(1) = 1", "turn(2) = 31", "leave(1) = true", "turn(2) = 1",
                "turn(1) !8");
        // Whoever dies in the very year does not get it; who is abroad neither.
        Rows.on("life 50;most 1;name s;person a born 1760 of s;person b born 1760;waits b for s;", "turn(1) !8");
        Rows.on("life 50;most 1;name s;person a born 1760 of s;person b born 1790;waits b for s;", "abroad(1,true) = true", "turn(1) !8",
                "abroad(1,false) = true", "abroad(0,true) = true", "turn(1) = 7");
        // What he bears falls free for another one who waits.
        Rows.on("life 50;most 1;name s;name t;person a born 1760 of s;person b born 1790 of t;person c born 1795;waits c for t;"
                + "waits b for s;", "turn(1) = 10", "turn(2) = 10");
    }

    private static void goings() {
        Check.says("GONE: in how many nobody living bears a SURNAME first (0: now).");
        Rows.on("life 120;name s;name t;name u;person a born 1800 of s;person b born 1700 of t miser;", "gone(0) = 120", "gone(1) !8",
                "gone(2) = 0", "die(0) = 1", "gone(0) = 0", "abroad(1,true) = true", "gone(1) = 7");
        // First: whoever takes it later does not count; a place that goes over in that year is no gap.
        Rows.on("life 50;most 1;name s;person a born 1760 of s;person b born 1790;waits b for s;", "gone(0) = 40");
        Rows.on("life 50;most 1;name s;person a born 1790;waits a for s;", "gone(0) = 0", "earn(0,1) = 1", "gone(0) = 40");
    }

    private static void luck() {
        Check.says("LUCK: ODDS that k or more of those who bear a SURNAME die, if each does by so many sixteenths.");
        Rows.on("name s;name t;person a born 1780 of s;person b born 1780 of s;person c born 1780 of s miser;person d born 1780 of s;",
                "die(3) = 3", "luck(0,3,1) = true", "top() = 1", "bottom() = 4096", "luck(0,1,15) = true", "top() = 4095",
                "bottom() = 4096", "luck(0,2,8) = true", "top() = 1", "bottom() = 2", "luck(0,0,0) = true", "top() = 1", "bottom() = 1",
                "luck(0,1,0) = true", "top() = 0", "bottom() = 1", "luck(0,3,16) = true", "top() = 1", "bottom() = 1",
                "luck(0,4,16) = true", "top() = 0", "bottom() = 1", "luck(1,0,7) = true", "top() = 1", "bottom() = 1",
                "luck(1,1,7) = true", "top() = 0", "bottom() = 1", "luck(0,12,16) = true", "top() = 0");
        Rows.on("name s;" + Check.people(9, " of s"), "luck(0,9,1) = true", "top() = 1", "bottom() = 68719476736", "luck(0,1,1) = true",
                "top() = 30276117361", "bottom() = 68719476736", "luck(0,10,16) = true", "top() = 0", "bottom() = 1",
                "luck(0,9,16) = true", "top() = 1", "bottom() = 1", "luck(0,5,8) = true", "top() = 1", "bottom() = 2");
    }

    private static void couples() {
        Check.says("COUPLES: the most couples of PERSONS that can be WED at once by way 0, nobody in two;");
        Rows.on("", "couples() = 0");
        Rows.on("person a born 1700;", "couples() = 0");
        Rows.on(Check.people(12, ""), "couples() = 6", "die(0) = 11", "couples() = 5", "wed(1,2,0) = true", "couples() = 4",
                "part(1,2) = true", "couples() = 5");
        // One who suits all, and all others near: only one couple.
        Rows.on("person m born 1700;person n born 1700;person a born 1750;person b born 1750;person c born 1750;person d born 1750;"
                + "child a of m n;child b of m n;child c of m n;wed m n;", "couples() = 1");
        // Whoever takes the first who suits him finds fewer: a and d suit all, b and c are near.
        Rows.on("person a born 1750;person d born 1750;person b born 1750;person c born 1750;person m born 1700;person n born 1700;"
                + "person o born 1700;person q born 1700;child b of m n;child c of m n;wed m n;wed o q;", "couples() = 2");
        Rows.on("person a born 1784;person b born 1785;", "couples() = 0", "year(1) = {}", "couples() = 1");
    }

    private static void couplesOfASurname() {
        Check.says("OF a SURNAME: of whom one at least bears it.");
        Rows.on("name s;name t;name u;" + Check.people(5, " of s") + "person x born 1750 of t;person y born 1750;person z born 1750;",
                "couplesOf(0) = 4", "couplesOf(1) = 1", "couplesOf(2) = 0", "couples() = 4", "wed(5,6,0) = true", "couplesOf(1) = 0",
                "couplesOf(0) = 3", "die(0) = 7", "couplesOf(0) = 2");
        Rows.on("name s;" + Check.people(9, " of s") + "person x born 1700;person y born 1700;person z born 1700;", "couplesOf(0) = 6",
                "couples() = 6");
        Rows.on("name s;person x born 1700 of s;" + Check.people(11, ""), "couplesOf(0) = 1", "couples() = 6");
        Rows.on("name s;person x born 1700 of s;person y born 1700 of s;" + Check.people(10, ""), "couplesOf(0) = 2");
    }

    private static void matches() {
        Check.says("MATCH of a PERSON: of those whom it can WED by way 1 the one whose SURNAME has the greatest WORTH, "
                + "of several the first.");
        String town = "most 2;name s worth 5;name t worth 50;name u worth 50;name v worth 99;person a born 1780;person b born 1780 of s;"
                + "person c born 1780 of u;person d born 1780 of t;person e born 1780 of v;person f born 1780 of v;person g born 1780;";
        // v has no place but for who bears it.
        Rows.on(town, "match(0) = 2", "match(1) = 2", "match(2) = 3", "match(3) = 2", "match(4) = 5", "match(5) = 4", "rule(3) = true",
                "match(0) = 4", "match(3) = 4", "wed(4,6,0) = true", "match(0) = 5", "match(4) !8", "rule(1) = true", "match(0) !8",
                "die(0) = 6", "match(0) !8");
        Rows.on("name s worth 0;person a born 1780;person b born 1780 of s;person c born 1780;", "match(0) = 1", "match(1) !8",
                "match(2) = 1");
        Rows.on("name s;person a born 1780;person b born 1785 of s;", "match(0) !8", "year(1) = {}", "match(0) = 1");
    }

    private static void whoTakesPart() {
        Check.says("RINGS: all who live and bear a SURNAME take part.");
        Rows.on("name s;name t;person a born 1780 of s;person b born 1799 of t;person c born 1780;person d born 1780 of t;likes a t;"
                + "likes b s;likes c s;likes d s;", "ringed(0) = 1", "ringed(1) = 0", "ringed(2) !8", "ringed(3) = 1", "rings() = 1",
                "die(1) = 3", "ringed(1) !8", "ringed(3) = 0", "ringed(0) = 1", "abroad(3,true) = true", "ringed(3) = 0");
        Rows.on("", "rings() = 0", "trade() = 0", "content() = 0");
    }

    private static void pointing() {
        Check.says("Each points at the one with the least number, of those still in, who bears the SURNAME that he LIKES most "
                + "of those that somebody still in bears");
        // a and d like t: only b, the least of t, is pointed at at first, and he points at a, the least of s.
        Rows.on("name s;name t;person a born 1780 of s;person b born 1780 of t;person c born 1780 of t;person d born 1780 of s;likes a t;"
                + "likes d t;likes b s;", "ringed(0) = 1", "ringed(1) = 0", "ringed(2) = 1", "ringed(3) = 0", "rings() = 1",
                "trade() = 2");
        // Once a and b are out, c and d are the least of theirs, and go round.
        Rows.on("name s;name t;person a born 1780 of s;person b born 1780 of t;person c born 1780 of t;person d born 1780 of s;likes a t;"
                + "likes d t;likes b s;likes c s;", "ringed(0) = 1", "ringed(1) = 0", "ringed(2) = 0", "ringed(3) = 1", "rings() = 2",
                "trade() = 4");
        // Nobody bears what he likes most; the dead do not count.
        Rows.on("name s;name t;name u;name v;person a born 1780 of s;person b born 1780 of t;person c born 1780 of u;likes a v u t;"
                + "likes b v s;", "ringed(0) = 1", "ringed(1) = 0", "ringed(2) = 2", "die(2) = 2", "ringed(0) = 1", "ringed(1) = 0", "ringed(2) !8",
                "rings() = 1");
        Rows.on("name s;name t;person a born 1780 of s;person b born 1780 of t;person c born 1780 of t;likes a t;likes c s;", "die(1) = 2",
                "ringed(0) = 1", "ringed(2) = 0", "rings() = 1");
        // Still in: b is out by himself at first, then a likes the next.
        Rows.on("name s;name t;name u;person a born 1780 of s;person b born 1780 of t;person c born 1780 of u;likes a t u;likes c s;",
                "ringed(0) = 2", "ringed(1) = 1", "ringed(2) = 0", "rings() = 1");
    }

    private static void ownNames() {
        Check.says("(what he bears counts as liked behind all that he LIKES; who likes that best points at himself).");
        Rows.on("name s;name t;person a born 1780 of s;person b born 1780 of t;", "ringed(0) = 0", "ringed(1) = 1", "rings() = 0",
                "trade() = 0");
        // a likes s, which he bears, ahead of t: he stays.
        Rows.on("name s;name t;person a born 1780 of s;person b born 1780 of t;likes a s t;likes b s;", "ringed(0) = 0", "ringed(1) = 1",
                "rings() = 0");
        Rows.on("name s;name t;person a born 1780 of s;person b born 1780 of t;likes a t s;likes b s;", "ringed(0) = 1", "ringed(1) = 0",
                "rings() = 1");
        // Another one of less number bears it too: he points at himself though.
        Rows.on("name s;name t;person a born 1780 of s;person b born 1780 of s;person c born 1780 of t;likes b s t;likes c s;likes a t;",
                "ringed(0) = 1", "ringed(1) = 0", "ringed(2) = 0", "rings() = 1");
    }

    private static void ringsRound() {
        Check.says("Who points round to himself makes a RING: each in it gets what the one he points at bears, and is out;");
        Rows.on("name a;name b;name c;name d;name e;name f;person pa born 1780 of a;person pb born 1780 of b;person pc born 1780 of c;"
                + "person pd born 1780 of d;person pe born 1780 of e;person pf born 1780 of f;likes pa c;likes pc e;likes pe b;likes pb d;"
                + "likes pd f;likes pf a;", "ringed(0) = 2", "ringed(1) = 3", "ringed(2) = 4", "ringed(3) = 5", "ringed(4) = 1",
                "ringed(5) = 0", "rings() = 1", "content() = 0", "trade() = 6", "content() = 6", "person(5,2) = 0", "rings() = 0");
        // c points into the ring of a and b, and is in none.
        Rows.on("name s;name t;name u;person a born 1780 of s;person b born 1780 of t;person c born 1780 of u;likes a t;likes b s;likes c s;",
                "ringed(2) = 2", "rings() = 1", "trade() = 2");
        // Twelve who each like nothing: nobody moves.
        StringBuilder twelve = new StringBuilder("name a;name b;");
        for (int k = 0; k < 12; k++) {
            twelve.append("person p").append((char) ('a' + k)).append(" born 1780 of ").append(k < 6 ? 'a' : 'b').append(';');
        }
        Rows.on(twelve.toString(), "rings() = 0", "trade() = 0", "content() = 12", "ringed(11) = 1");
        for (int k = 0; k < 12; k++) {
            twelve.append("likes p").append((char) ('a' + k)).append(' ').append(k < 6 ? 'b' : 'a').append(';');
        }
        Rows.on(twelve.toString(), "rings() = 6", "content() = 0", "ringed(0) = 1", "ringed(11) = 0", "trade() = 12", "content() = 12");
    }

    private static void ringsInOrder() {
        Check.says("of several RINGS that with the least number in it comes first. Again, till nobody is in.");
        Rows.on("name a;name b;name c;name d;person pa born 1780 of a;person pb born 1780 of b;person pc born 1780 of c;"
                + "person pd born 1780 of d;likes pa d;likes pd a;likes pb c;likes pc b;", "rings() = 2", "ringed(0) = 3", "ringed(3) = 0",
                "ringed(1) = 2", "ringed(2) = 1", "trade() = 4");
        // Three rounds, one behind the other: c is alone, then b with a, and d is left with what he has.
        Rows.on("name a;name b;name c;name d;person pa born 1780 of a;person pb born 1780 of b;person pc born 1780 of c;"
                + "person pd born 1780 of d;likes pa c b;likes pb c a;likes pd c a b;", "ringed(0) = 1", "ringed(1) = 0", "ringed(2) = 2",
                "ringed(3) = 3", "rings() = 1");
    }

    private static void kin() {
        Check.says("KIN: the fewest steps from CHILD to parent, or parent to CHILD, from one to another one.");
        StringBuilder chain = new StringBuilder(Check.people(12, ""));
        for (char c = 'a'; c < 'k'; c++) {
            chain.append("child p").append(c).append(" of p").append((char) (c + 1)).append(" p").append((char) (c + 2)).append(';');
        }
        // By the second parents it is half as far.
        Rows.on(chain.toString(), "kin(0,0) = 0", "kin(0,1) = 1", "kin(0,2) = 1", "kin(0,3) = 2", "kin(0,11) = 6", "kin(11,0) = 6",
                "kin(0,10) = 5", "elders(0) = {1,2,3,4,5,6,7,8,9,10,11}", "elders(9) = {10,11}", "children(11) = {9}", "children(10) = {8,9}");
        // A way that goes up and down, over one born of two: p has two parents, each of whom has a child by another one.
        Rows.on(Check.people(11, "") + "child pb of pa pc;child pd of pc pe;child pf of pe pg;child ph of pg pi;child pj of pi pk;", "kin(0,10) = 10",
                "kin(10,0) = 10", "kin(0,2) = 2", "kin(1,3) = 2", "kin(0,9) = 9", "die(5) = 10", "kin(0,10) = 10");
        Rows.on(Check.people(12, "") + "child pb of pa pc;child pd of pc pe;child pf of pe pg;child ph of pg pi;child pj of pi pk;child pk of pl pa;",
                "kin(0,10) = 1", "kin(0,9) = 2", "kin(11,9) = 2", "kin(5,10) = 5", "kin(11,5) = 6");
        Rows.on(Check.people(4, "") + "child pa of pb pc;", "kin(1,2) = 2", "kin(0,3) !8", "kin(3,3) = 0");
        Rows.on(Check.people(12, "") + "child pa of pb pc;child pc of pd pe;child pe of pf pg;child pg of ph pi;child pi of pj pk;child pk of pl pj;",
                "kin(0,11) = 6", "kin(1,11) = 7", "kin(0,9) = 5");
    }

    private static void couldBe() {
        Check.says("COULD BE: two unlike PERSONS could be parents of one: both BORN 16 YEARS or more ahead of him, not he, "
                + "one of them bears his SURNAME");
        Rows.on("name s;name t;person c born 1800 of s;person a born 1784 of s;person b born 1785 of s;person d born 1784;"
                + "person e born 1000 of t;person f born 1784 of s;", "couldBe(0,1,3) = 1", "couldBe(0,3,1) = 1", "couldBe(0,1,4) = 1",
                "couldBe(0,1,5) = 1", "couldBe(0,1,2) = 0", "couldBe(0,2,1) = 0", "couldBe(0,2,3) = 0", "couldBe(0,3,2) = 0",
                "couldBe(0,3,4) = 0", "couldBe(0,4,3) = 0", "couldBe(0,1,1) = 0", "couldBe(0,0,1) = 0", "couldBe(0,1,0) = 0",
                "couldBe(1,4,5) = 0", "parents(0) = 5", "parents(1) = 0", "parents(4) = 0", "parents(2) = 0");
        Check.says("the dead with what they bore.");
        Rows.on("name s;name t;person c born 1800 of s;person a born 1784 of s;person d born 1784;person e born 1784 of t;", "die(1) = 3",
                "couldBe(0,1,2) = 1", "parents(0) = 2", "die(0) = 2", "parents(0) = 2", "swap(2,3) = true", "parents(0) = 2");
    }

    private static void couldBeOfDash() {
        Check.says("(of DASH: both are DASH);");
        Rows.on("name s;person c born 1800;person a born 1780;person b born 1780;person d born 1780 of s;person e born 1785;",
                "couldBe(0,1,2) = 1", "couldBe(0,1,3) = 0", "couldBe(0,3,1) = 0", "couldBe(0,1,4) = 0", "parents(0) = 1", "die(1) = 4",
                "parents(0) = 1", "swap(2,3) = true", "parents(0) = 1", "couldBe(0,1,3) = 1", "couldBe(0,1,2) = 0");
        Rows.on("person x born 1800;" + Check.people(11, ""), "parents(0) = 55", "parents(1) = 0");
    }

    private static void recount() {
        Check.says("RECOUNT by another MOST: all who live get SURNAMES anew,");
        Rows.on("name s;" + Check.people(9, " of s"), "recount(9) = 0", "recount(8) = 1", "recount(1) = 8", "die(0) = 8", "recount(8) = 0",
                "recount(1) = 7", "rule(1) = true", "recount(9) = 0");
        Rows.on(Check.people(12, ""), "recount(1) = 12");
        Check.says("what they bear, if that has a PLACE yet, else the first of what they LIKE that has; how many are DASH.");
        Rows.on("name s;name t;name u;" + Check.people(5, " of s") + "likes pb t u;likes pc t u;likes pd t s;likes pe u t;person x born 1710;"
                + "likes x u;person y born 1720;", "recount(1) = 4", "recount(2) = 1", "recount(3) = 1", "recount(9) = 1");
        // Who is dash may get one; who bears one that is liked by none keeps it.
        Rows.on("name s;name t;person a born 1700;person b born 1701 of s;likes a s t;", "recount(1) = 1", "recount(2) = 0");
    }

    private static void recountInOrder() {
        Check.says("by the YEAR in which they were BORN, then by number:");
        Rows.on("name s;name t;person a born 1702 of s;person b born 1701 of s;likes b t;", "recount(1) = 1");
        Rows.on("name s;name t;person a born 1701 of s;person b born 1702 of s;likes b t;", "recount(1) = 0");
        Rows.on("name s;name t;person a born 1701 of s;person b born 1701 of s;likes b t;", "recount(1) = 0");
        Rows.on("name s;name t;person a born 1701 of s;person b born 1701 of s;likes a t;", "recount(1) = 1");
    }
}
