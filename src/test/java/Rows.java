import java.lang.reflect.InvocationTargetException;
import java.lang.reflect.Method;
import java.util.ArrayList;
import java.util.Arrays;
import java.util.HashMap;
import java.util.List;
import java.util.Map;

/**
 * Runs of calls as rows of text, each with the answer that is due: "die(0) = 3" (status 0), "die(0) !9" (refused with
 * status 9), "many(2) = {0,2}" (a set), "town: name s; = 0" and "centuries: any; = 1" (a text that is fed first).
 * Behind a run, each row that was refused, or that only asks, is held against a second object that was never asked it:
 * nothing but the status may be another one there.
 */
final class Rows {
    private static final Map<String, Method> CALLS = new HashMap<>();
    private static final List<String> WITHOUT_STATUS = Arrays.asList("status", "fault", "feed", "top", "bottom");
    private static final List<String> ASKING = Arrays.asList("read", "many", "surname", "person", "waiting", "liked", "turn",
            "gone", "livingIn", "bearsIn", "dashesIn", "canWed", "couples", "couplesOf", "match", "suitors", "ringed", "rings",
            "content", "kin", "children", "elders", "near", "parents", "couldBe", "wealth", "richest", "buyers", "recount",
            "lived");

    static {
        for (Method m : NineNames.class.getDeclaredMethods()) {
            CALLS.put(m.getName(), m);
        }
    }

    private Rows() {
    }

    /** A run on a new object; an empty text leaves it the town of nobody. */
    static NineNames on(String town, String... rows) {
        List<String> all = new ArrayList<>();
        if (!town.isEmpty()) {
            all.add("town: " + town);
        }
        all.addAll(Arrays.asList(rows));
        NineNames x = new NineNames();
        for (int k = 0; k < all.size(); k++) {
            String row = all.get(k);
            if (k == 0 && !town.isEmpty()) {
                Check.due(row + " (fault " + x.fault(0) + " at " + x.fault(1) + ")", call(x, row) >= 0, true);
            } else {
                hold(x, row);
            }
        }
        nothingElseChanged(all, town.isEmpty() ? 0 : 1);
        return x;
    }

    private static void hold(NineNames x, String row) {
        String told = row;
        int status = 0;
        int mark = row.lastIndexOf(" !");
        if (mark >= 0) {
            status = Integer.parseInt(row.substring(mark + 2));
            told = row.substring(0, mark);
        }
        int equals = told.lastIndexOf(" = ");
        long want = equals >= 0 ? value(told.substring(equals + 3)) : isTrueOrFalse(told) ? 0 : -1;
        Check.due(row, call(x, equals >= 0 ? told.substring(0, equals) : told), want);
        if (!WITHOUT_STATUS.contains(nameOf(row))) {
            Check.due(row + ", its status", x.status(), status);
        }
    }

    private static boolean isTrueOrFalse(String row) {
        return !isText(row) && CALLS.get(nameOf(row)).getReturnType() == boolean.class;
    }

    private static boolean isText(String row) {
        return row.startsWith("town:") || row.startsWith("centuries:");
    }

    private static String nameOf(String row) {
        return isText(row) ? row.substring(0, row.indexOf(':')) : row.substring(0, row.indexOf('('));
    }

    private static long value(String told) {
        if (told.equals("true") || told.equals("false")) {
            return told.equals("true") ? 1 : 0;
        }
        if (!told.startsWith("{")) {
            return Long.parseLong(told);
        }
        long set = 0;
        for (String person : told.substring(1, told.length() - 1).split(",")) {
            set |= person.isEmpty() ? 0 : 1L << Integer.parseInt(person);
        }
        return set;
    }

    /** Makes the call of a row, whose answer may stand behind it yet or not. */
    private static long call(NineNames x, String row) {
        if (isText(row)) {
            String text = row.substring(row.indexOf(':') + 2);
            return row.startsWith("town:") ? Check.town(x, text) : Check.centuries(x, text);
        }
        Method m = CALLS.get(nameOf(row));
        String inside = row.substring(row.indexOf('(') + 1, row.indexOf(')'));
        String[] told = inside.isEmpty() ? new String[0] : inside.split(",");
        Object[] with = new Object[told.length];
        for (int k = 0; k < told.length; k++) {
            Class<?> type = m.getParameterTypes()[k];
            String one = told[k].trim();
            if (type == boolean.class) {
                with[k] = Boolean.valueOf(one);
            } else if (type == long.class) {
                with[k] = Long.valueOf(one);
            } else {
                with[k] = Integer.valueOf(one);
            }
        }
        try {
            Object got = m.invoke(x, with);
            return got instanceof Boolean ? ((Boolean) got ? 1 : 0) : ((Number) got).longValue();
        } catch (InvocationTargetException | IllegalAccessException e) {
            Check.due(row + " threw " + e.getCause(), 1, 0);
            return Long.MIN_VALUE;
        }
    }

    private static String bare(String row) {
        int mark = row.lastIndexOf(" !");
        String told = mark >= 0 ? row.substring(0, mark) : row;
        int equals = told.lastIndexOf(" = ");
        return equals >= 0 ? told.substring(0, equals) : told;
    }

    private static void nothingElseChanged(List<String> rows, int from) {
        for (int k = from; k < rows.size(); k++) {
            String row = rows.get(k);
            boolean refused = row.contains(" !") && !row.endsWith("!10");
            if (refused && !isText(row) || ASKING.contains(nameOf(row))) {
                String with = stateBehind(rows, k, true);
                String without = stateBehind(rows, k, false);
                Check.due(row + " changes nothing: " + with + " was " + without, with.equals(without), true);
            }
        }
    }

    private static String stateBehind(List<String> rows, int last, boolean withIt) {
        NineNames x = new NineNames();
        for (int k = 0; k < last; k++) {
            call(x, k == 0 && isText(rows.get(0)) && !rows.get(0).contains(" = ") ? rows.get(0) : bare(rows.get(k)));
        }
        if (withIt) {
            call(x, bare(rows.get(last)));
        }
        return state(x);
    }

    /** All that can be asked of an object, and in the end what the tape, the centuries and the marks hold. */
    private static String state(NineNames x) {
        StringBuilder all = new StringBuilder();
        all.append(x.top()).append('/').append(x.bottom()).append(' ').append(x.fault(0)).append('@').append(x.fault(1));
        for (int what = 0; what < 5; what++) {
            all.append(' ').append(x.lived(what));
        }
        for (int tray = 0; tray < 4; tray++) {
            all.append(" tray");
            long v = x.read(tray, 0);
            for (int place = 0; x.status() == 0; v = x.read(tray, ++place)) {
                all.append(' ').append(v);
            }
            all.append(':').append(x.status());
        }
        town(x, all);
        all.append(" tape ").append(x.feed(0, 0, 0, 0, 0));
        all.append(" lives ").append(x.live(77)).append(' ').append(x.many(2)).append(' ').append(x.many(4));
        while (x.back() >= 0) {
            all.append(" mark ").append(x.many(2)).append(' ').append(x.many(4)).append(' ').append(x.many(10));
        }
        return all.toString();
    }

    private static void town(NineNames x, StringBuilder all) {
        for (int what = 0; what < 11; what++) {
            all.append(what == 0 ? " town " : " ").append(x.many(what));
        }
        for (int s = 0; s < x.many(0); s++) {
            for (int what = 0; what < 4; what++) {
                all.append(what == 0 ? " surname " : " ").append(x.surname(s, what));
            }
        }
        for (int p = 0; p < x.many(1); p++) {
            for (int what = 0; what < 10; what++) {
                all.append(what == 0 ? " person " : " ").append(x.person(p, what));
            }
            int liked = x.liked(p, 0);
            for (int k = 0; liked >= 0; liked = x.liked(p, ++k)) {
                all.append(" likes ").append(liked);
            }
        }
        for (int k = 0; k < x.many(7); k++) {
            all.append(" waits ").append(x.waiting(k, 0)).append(" for ").append(x.waiting(k, 1));
        }
    }
}
