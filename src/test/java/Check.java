/** What the tests share: answers that are due, and texts fed as the tape wants them. */
final class Check {
    private static int wrong = 0;
    private static String said = "";

    private Check() {
    }

    /** The sentence of the document that the checks behind this hold the class to; QuotesTest looks for it there. */
    static void says(String sentence) {
        said = sentence;
    }

    static void due(String what, long got, long want) {
        if (got != want) {
            wrong++;
            System.out.println(what + " answered " + got + ", due is " + want
                    + (said.isEmpty() ? "" : ", as the document says: " + said));
        }
    }

    static void due(String what, boolean got, boolean want) {
        due(what, got ? 1 : 0, want ? 1 : 0);
    }

    /** A call that answered NONE, and must have left this status. */
    static void refused(String what, NineNames x, long got, int status) {
        due(what, got, NineNames.NONE);
        due(what + ", its status", x.status(), status);
    }

    static void refused(String what, NineNames x, boolean got, int status) {
        due(what, got, false);
        due(what + ", its status", x.status(), status);
    }

    /** A call that answered a number, and must have left status 0. */
    static void fine(String what, NineNames x, long got, long want) {
        due(what, got, want);
        due(what + ", its status", x.status(), 0);
    }

    static void fine(String what, NineNames x, boolean got) {
        due(what, got, true);
        due(what + ", its status", x.status(), 0);
    }

    static void fraction(String what, NineNames x, long top, long bottom) {
        due(what + ", its top", x.top(), top);
        due(what + ", its bottom", x.bottom(), bottom);
    }

    static int feed(NineNames x, String text) {
        int taped = NineNames.NONE;
        for (int i = 0; i < text.length(); i += 20) {
            int[] v = twenty(text, i);
            taped = x.feed(v[0], v[1], v[2], v[3], v[4]);
        }
        return taped;
    }

    static void feed(Model x, String text) {
        for (int i = 0; i < text.length(); i += 20) {
            int[] v = twenty(text, i);
            x.feed(v[0], v[1], v[2], v[3], v[4]);
        }
    }

    /** Twenty bytes of a text from one on, blanks behind its end, the highest of each int first. */
    static int[] twenty(String text, int from) {
        int[] v = new int[5];
        for (int k = 0; k < 20; k++) {
            int c = from + k < text.length() ? text.charAt(from + k) & 255 : ' ';
            v[k / 4] = v[k / 4] << 8 | c;
        }
        return v;
    }

    static int town(NineNames x, String text) {
        feed(x, text);
        return x.town(text.length());
    }

    static int centuries(NineNames x, String text) {
        feed(x, text);
        return x.centuries(text.length());
    }

    static NineNames with(String text) {
        NineNames x = new NineNames();
        if (town(x, text) == NineNames.NONE) {
            wrong++;
            System.out.println("not taken, fault " + x.fault(0) + " at " + x.fault(1) + ": " + text);
        }
        return x;
    }

    static NineNames with(String text, String steps) {
        NineNames x = with(text);
        if (centuries(x, steps) == NineNames.NONE) {
            wrong++;
            System.out.println("not taken, fault " + x.fault(0) + " at " + x.fault(1) + ": " + steps);
        }
        return x;
    }

    /** So many persons pa, pb .. born 1700, with what else is told of each. */
    static String people(int many, String tail) {
        StringBuilder text = new StringBuilder();
        for (int k = 0; k < many; k++) {
            text.append("person p").append((char) ('a' + k)).append(" born 1700").append(tail).append(';');
        }
        return text.toString();
    }

    /** A text whose fault stands at a mark |, which is taken out of it, in place of a town that must stay. */
    static void townFault(int kind, String marked) {
        NineNames x = with("year 1801;name old;person mia born 1799 of old coins 3;");
        int place = marked.indexOf('|');
        String text = marked.substring(0, place) + marked.substring(place + 1);
        refused("town: " + text, x, town(x, text), 10);
        due("the fault of " + text, x.fault(0), kind);
        due("its place in " + text, x.fault(1), place);
        due("the old year", x.many(4), 1801);
        due("the old one's coins", x.person(0, 3), 3);
        due("the tape is empty behind " + text, x.feed(0, 0, 0, 0, 0), 20);
    }

    /** Likewise of centuries. */
    static void centuriesFault(int kind, String town, String marked) {
        NineNames x = with(town, "stop;");
        int place = marked.indexOf('|');
        String text = marked.substring(0, place) + marked.substring(place + 1);
        refused("centuries: " + text, x, centuries(x, text), 10);
        due("the fault of " + text, x.fault(0), kind);
        due("its place in " + text, x.fault(1), place);
        fine("the old ones stay", x, x.live(0), 1);
        due("the tape is empty behind " + text, x.feed(0, 0, 0, 0, 0), 20);
    }

    /** A set of persons as the calls tell it. */
    static int set(int... persons) {
        int bits = 0;
        for (int p : persons) {
            bits |= 1 << p;
        }
        return bits;
    }

    static void end() {
        if (wrong != 0) {
            System.out.println(wrong + " answers are not as due");
            System.exit(1);
        }
    }
}
