/** Promises 11 and 58 to 60: centuries as a text, and by draws. */
public final class CenturiesTest {
    private static final String TOWN = "name s;name t worth 7;person ann born 1750 of s;person bob born 1760 of t;"
            + "person cid born 1770;person dot born 1790 coins 7 miser;";

    public static void main(String[] args) {
        takenTexts();
        faults();
        longText();
        steps();
        missed();
        tests();
        loops();
        limit();
        draws();
        yearsAndDeaths();
        theQueueBehindSteps();
        emptyCenturies();
        wrongCalls();
        livedStays();
        mean();
        Check.end();
    }

    private static void faultAt(String marked, int kind) {
        int place = marked.indexOf('|');
        String text = marked.substring(0, place) + marked.substring(place + 1);
        NineNames x = Check.with(TOWN, "stop;");
        Check.refused("centuries: " + text, x, Check.centuries(x, text), 10);
        Check.due("fault of " + text, x.fault(0), kind);
        Check.due("its place in " + text, x.fault(1), place);
        Check.fine("the old ones stay", x, x.live(0), 1);
        Check.due("the tape is empty", x.feed(0, 0, 0, 0, 0), 20);
    }

    private static void taken(String text, int steps) {
        NineNames x = Check.with(TOWN);
        Check.fine("centuries: " + text, x, Check.centuries(x, text), steps);
        Check.due("no fault", x.fault(0), 0);
        Check.due("no place", x.fault(1), -1);
    }

    private static String times(int n, String what) {
        StringBuilder all = new StringBuilder();
        for (int k = 0; k < n; k++) {
            all.append(what);
        }
        return all.toString();
    }

    private static void takenTexts() {
        taken("", 0);
        taken("year 1;year20;die ann;birth ann ann;wed bob cid;sell ann ann;swap cid dot;any;stop;", 9);
        taken("when bears ann s;end;when dash\nbob;stop;end;when free t<9;end;when free s>0;end;when free s=0;end;", 6);
        taken("loop 1;loop 99;when dash ann;any;end;end;end;loop 2;end;", 5);
        taken(times(30, "any;"), 30);
        taken(times(10, "loop 9;loop 1;any;end;end;"), 30);
    }

    private static void faults() {
        faultAt("stop;|?", 1);
        faultAt("year |00001;", 1);
        faultAt("stop; |A", 1);
        faultAt("|ann;", 2);
        faultAt("|;", 2);
        faultAt("|name x;", 2);
        faultAt("|bears ann s;", 2);
        faultAt("|end;", 2);
        faultAt("loop 1;end;|end;", 2);
        faultAt("loop 1;end |stop;", 2);
        faultAt("loop 1;|", 2);
        faultAt("loop 1; stop;  |", 2);
        faultAt("loop 1; loop 1; end; |", 2);
        faultAt("stop|", 2);
        faultAt("stop |stop;", 2);
        faultAt("year |;", 2);
        faultAt("year 1|2a;".replace("|2a", "2|a"), 2);
        faultAt("die |;", 2);
        faultAt("die |1;", 2);
        faultAt("die |any;", 2);
        faultAt("die |abcdefghi;", 2);
        faultAt("birth ann |;", 2);
        faultAt("wed ann bob |cid;", 2);
        faultAt("when |;", 2);
        faultAt("when |loop 1;", 2);
        faultAt("when bears ann |;", 2);
        faultAt("when free s |;", 2);
        faultAt("when free s |1;", 2);
        faultAt("when free s < |<", 2);
        faultAt("when dash ann |s;", 2);
        faultAt("loop |;", 2);
        faultAt("loop |x;", 2);
        faultAt("die |s;", 3);
        faultAt("die |who;", 3);
        faultAt("birth |t ann;", 3);
        faultAt("birth ann |t;", 3);
        faultAt("sell ann |who;", 3);
        faultAt("swap |who ann;", 3);
        faultAt("when bears |s s;", 3);
        faultAt("when bears ann |ann;", 3);
        faultAt("when dash |s;", 3);
        faultAt("when free |ann < 1;", 3);
        faultAt("year |0;", 4);
        faultAt("year |21;", 4);
        faultAt("loop |0;", 4);
        faultAt("loop |100;", 4);
        faultAt("when free s = |10;", 4);
        faultAt(times(30, "any;") + "|any;", 6);
        faultAt(times(30, "any;") + "|x;", 2);
        faultAt(times(30, "any;") + "|end;", 2);
        faultAt(times(28, "any;") + "loop 1;when dash ann;end;end;|loop 1;end;", 6);
        faultAt("loop 1;when dash ann;loop 2;|when dash ann;", 7);
        faultAt("loop 1;when dash ann;loop 2;end;loop 1;|loop x", 7);
        faultAt(times(27, "any;") + "loop 1;loop 1;loop 1;|loop 1;", 6);
    }

    private static void longText() {
        NineNames x = Check.with(TOWN);
        String text = times(290, " ") + "year 20;  ";
        Check.due("its length", text.length(), 300);
        Check.fine("300 bytes", x, Check.centuries(x, text), 1);
        Check.feed(x, text + " ");
        Check.refused("301 bytes", x, x.centuries(301), 5);
        Check.fine("the tape is as it was", x, x.centuries(300), 1);
    }

    private static void counted(NineNames x, int missed, int years, int births, int deaths, int left) {
        int[] want = {missed, years, births, deaths, left};
        for (int what = 0; what < 5; what++) {
            Check.fine("lived(" + what + ")", x, x.lived(what), want[what]);
        }
    }

    private static void steps() {
        NineNames x = Check.with(TOWN, "year 7;birth ann bob;wed bob cid;sell bob dot;swap ann cid;die bob;stop;die ann;");
        Check.fine("live", x, x.live(0), 7);
        counted(x, 0, 7, 1, 1, 0);
        Check.fine("the child bears", x, x.person(4, 2), 0);
        Check.fine("the child's parents", x, x.children(0) & x.children(1), Check.set(4));
        Check.refused("cid is widowed", x, x.person(2, 4), 8);
        Check.fine("7 years on", x, x.many(4), 1807);
        Check.fine("cid has ann's", x, x.person(2, 2), 0);
        Check.fine("ann lives", x, x.person(0, 9), 1);
        Check.fine("dot bought", x, x.person(3, 3), 0);
        Check.refused("ann is dash", x, x.person(0, 2), 8);
    }

    private static void missed() {
        NineNames x = Check.with("year 2995;" + TOWN.replace("born 17", "born 29"),
                "die cid;die cid;birth cid ann;birth ann ann;wed ann ann;wed ann dot;sell cid ann;sell ann bob;swap ann cid;"
                + "year 5;year 4;year 1;");
        Check.fine("all are done", x, x.live(0), 12);
        counted(x, 10, 4, 0, 1, 0);
        Check.fine("not beyond 2999", x, x.many(4), 2999);
        StringBuilder full = new StringBuilder();
        for (char c = 'a'; c <= 'k'; c++) {
            full.append("person p").append(c).append(" born 1700;");
        }
        NineNames y = Check.with(full.toString(), "birth pa pb;birth pa pb;");
        Check.fine("a 13th", y, y.live(0), 2);
        counted(y, 1, 0, 1, 0, 0);
        y.live(0);
        counted(y, 2, 0, 0, 0, 0);
        Check.centuries(y, "wed pa pb;");
        y.live(0);
        counted(y, 0, 0, 0, 0, 0);
        Check.fine("they are wed", y, y.many(8), 3);
        NineNames z = Check.with("person a born 1700;person b born 1700;", "any;any;any;");
        Check.fine("none is left", z, z.live(5), 3);
        counted(z, 1, 0, 0, 2, 0);
    }

    private static void holds(String test, boolean want) {
        NineNames x = Check.with(TOWN, "when " + test + ";year 1;end;year 2;");
        x.die(1);
        Check.fine(test, x, x.live(0), want ? 3 : 2);
        Check.fine(test, x, x.lived(1), want ? 3 : 2);
    }

    private static void tests() {
        holds("bears ann s", true);
        holds("bears ann t", false);
        holds("bears bob t", false);
        holds("bears cid s", false);
        holds("dash cid", true);
        holds("dash ann", false);
        holds("dash bob", false);
        holds("free s < 8", false);
        holds("free s < 9", true);
        holds("free s = 8", true);
        holds("free s = 7", false);
        holds("free s > 8", false);
        holds("free s > 7", true);
        holds("free t = 9", true);
    }

    private static void loops() {
        NineNames x = Check.with(TOWN, "loop 3;year 1;loop 2;year 2;end;when dash ann;year 20;end;end;year 5;");
        Check.fine("each loop from ahead is one", x, x.live(0), 1 + 3 * (1 + 1 + 2 + 1) + 1);
        counted(x, 0, 3 * 5 + 5, 0, 0, 0);
        NineNames y = Check.with(TOWN, "loop 5;loop 99;end;stop;end;");
        Check.fine("stop ends all", y, y.live(0), 3);
        NineNames z = Check.with(TOWN, "loop 99;loop 99;loop 99;end;end;end;");
        Check.fine("empty loops", z, z.live(0), 1 + 99 * 2 + 99 * 0 + 101);
        Check.fine("and one is left", z, z.lived(4), 1);
    }

    private static void limit() {
        NineNames x = Check.with(TOWN, "loop 99;swap ann bob;swap ann bob;any;end;");
        Check.fine("298", x, x.live(0), 298);
        Check.fine("none is left", x, x.lived(4), 0);
        NineNames y = Check.with(TOWN, "loop 99;loop 1;die ann;end;any;end;any;any;any;");
        Check.fine("300", y, y.live(0), 300);
        Check.fine("one is left", y, y.lived(4), 1);
        NineNames z = Check.with(TOWN, "any;any;loop 99;any;any;any;end;");
        Check.fine("just 300", z, z.live(0), 300);
        Check.fine("none is left", z, z.lived(4), 0);
        Check.centuries(y, "stop;");
        y.live(0);
        Check.fine("none is left now", y, y.lived(4), 0);
        NineNames w = Check.with(TOWN, "any;any;loop 99;any;any;any;end;stop;");
        Check.fine("300", w, w.live(0), 300);
        Check.fine("the stop is left", w, w.lived(4), 1);
    }

    private static void draws() {
        // seed 0: s = 10709, 10709 / 8 = 1338, by 4 rests 2: cid.
        // s = (10709 * 2971 + 10709) mod 65536 = 42188, / 8 = 5273, by 3 rests 2: dot of ann, bob, dot.
        int s = 0;
        int[] alive = {0, 1, 2, 3};
        int count = 4;
        NineNames x = Check.with(TOWN, "any;");
        for (int k = 0; k < 4; k++) {
            s = (s * 2971 + 10709) % 65536;
            int who = alive[s / 8 % count];
            if (k == 0) {
                Check.due("the first draw", who, 2);
                x.live(0);
                Check.fine("cid died", x, x.many(2), Check.set(0, 1, 3));
            }
            count--;
            for (int i = 0, n = 0; i <= count; i++) {
                if (alive[i] != who) {
                    alive[n++] = alive[i];
                }
            }
            NineNames y = Check.with(TOWN, times(k + 1, "any;"));
            y.live(0);
            int left = 0;
            for (int i = 0; i < count; i++) {
                left |= 1 << alive[i];
            }
            Check.fine("who is left behind " + (k + 1), y, y.many(2), left);
        }
        NineNames z = Check.with(TOWN, "any;");
        // s = (9999 * 2971 + 10709) mod 65536 = 29930
        int first = (int) ((9999L * 2971 + 10709) % 65536) / 8 % 4;
        Check.fine("seed 9999", z, z.live(9999), 1);
        Check.fine("by it", z, z.many(2), 15 & ~(1 << first));
    }

    private static void yearsAndDeaths() {
        NineNames x = Check.with(TOWN, "year 20;year 20;year 20;");
        Check.fine("live", x, x.live(7), 3);
        counted(x, 0, 60, 0, 3, 0);
        Check.fine("the miser lives", x, x.many(2), Check.set(3));
        x.live(7);
        counted(x, 0, 60, 0, 0, 0);
    }

    private static void theQueueBehindSteps() {
        NineNames x = Check.with("most 1;" + TOWN + "waits cid for s;waits dot for t;", "die ann;when bears cid s;year 1;end;");
        Check.fine("cid has it at once", x, x.live(0), 3);
        Check.fine("one waits yet", x, x.many(7), 1);
        NineNames y = Check.with(TOWN + "waits cid for s;", "swap ann ann;loop 2;end;when dash cid;end;");
        y.live(0);
        Check.fine("nothing happened", y, y.many(7), 1);
        NineNames z = Check.with("most 1;" + TOWN + "waits dot for s;", "year 20;year 20;");
        z.live(0);
        Check.fine("within years", z, z.person(3, 2), 0);
    }

    private static void emptyCenturies() {
        NineNames x = Check.with(TOWN, "");
        Check.fine("of no steps", x, x.live(0), 0);
        counted(x, 0, 0, 0, 0, 0);
        Check.fine("mean", x, x.mean(0, 20));
        Check.fraction("mean", x, 2, 1);
    }

    private static void wrongCalls() {
        NineNames x = Check.with(TOWN);
        Check.refused("seed -1", x, x.live(-1), 5);
        Check.refused("seed 10000", x, x.live(10000), 5);
        Check.refused("no centuries", x, x.live(0), 8);
        Check.refused("lived what", x, x.lived(5), 5);
        Check.refused("lived what -1", x, x.lived(-1), 5);
        Check.refused("never lived", x, x.lived(4), 8);
        Check.refused("mean of 0", x, x.mean(0, 0), 5);
        Check.refused("mean of 21", x, x.mean(0, 21), 5);
        Check.refused("mean from -1", x, x.mean(-1, 2), 5);
        Check.refused("mean to 10000", x, x.mean(9999, 2), 5);
        Check.refused("mean to 10000", x, x.mean(9990, 11), 5);
        Check.refused("mean far beyond", x, x.mean(Integer.MAX_VALUE, 20), 5);
        Check.refused("mean without centuries", x, x.mean(9999, 1), 8);
        Check.refused("mean without centuries", x, x.mean(9980, 20), 8);
    }

    private static void livedStays() {
        NineNames x = Check.with(TOWN, "year 3;die ann;");
        x.mark();
        x.live(1);
        counted(x, 0, 3, 0, 1, 0);
        x.live(-1);
        x.mean(0, 3);
        x.back();
        Check.town(x, "name z;");
        x.live(0);
        counted(x, 0, 3, 0, 1, 0);
    }

    private static void mean() {
        NineNames x = Check.with(TOWN, "any;");
        // cid, dot are dash: one less if one of them is drawn.
        int sum = 0;
        for (int seed = 11; seed < 18; seed++) {
            int drawn = (seed * 2971 + 10709) % 65536 / 8 % 4;
            sum += drawn >= 2 ? 1 : 2;
        }
        Check.fine("mean of 7", x, x.mean(11, 7));
        int divisor = sum % 7 == 0 ? 7 : 1;
        Check.fraction("mean of 7", x, sum / divisor, 7 / divisor);
        Check.fine("all stays", x, x.many(2), 15);
        Check.refused("nothing was lived", x, x.lived(0), 8);
        int one = 0;
        for (int seed = 0; seed < 20; seed++) {
            int drawn = (seed * 2971 + 10709) % 65536 / 8 % 4;
            one += drawn >= 2 ? 1 : 2;
        }
        x.mean(0, 20);
        Check.due("mean of 20", x.top() * 20, one * x.bottom());
        NineNames y = Check.with("name s;person a born 1700 of s;person b born 1700;", "swap a b;die a;");
        Check.fine("none is dash", y, y.mean(0, 6));
        Check.fraction("0 by 1", y, 0, 1);
    }
}
