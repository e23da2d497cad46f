import java.lang.reflect.Method;
import java.util.ArrayList;
import java.util.Arrays;
import java.util.Comparator;
import java.util.List;
import java.util.Random;

/** Random runs of at most 512 calls, each answer held against the model's. */
public final class RandomRunsTest {
    private static final int RUNS = 1500;
    private static final int CALLS = 400;

    private final Random random;
    private final NineNames x = new NineNames();
    private final Model model = new Model();
    private final List<String> said = new ArrayList<>();
    private final List<Method> calls = new ArrayList<>();
    private int made = 0;
    private boolean wrong = false;

    private RandomRunsTest(long seed) {
        random = new Random(seed);
        for (Method m : NineNames.class.getDeclaredMethods()) {
            if (java.lang.reflect.Modifier.isPublic(m.getModifiers())) {
                calls.add(m);
            }
        }
        calls.sort(Comparator.comparing(Method::getName));
    }

    public static void main(String[] args) throws ReflectiveOperationException {
        int bad = 0;
        for (int run = 0; run < RUNS && bad < 3; run++) {
            if (new RandomRunsTest(run).isWrong()) {
                System.out.println("in the run by seed " + run);
                bad++;
            }
        }
        if (bad > 0) {
            System.exit(1);
        }
    }

    private boolean isWrong() throws ReflectiveOperationException {
        readText("town", town());
        while (made < CALLS && !wrong) {
            int dice = random.nextInt(100);
            if (dice < 1) {
                readText("town", town());
            } else if (dice < 6) {
                readText("centuries", centuries());
            } else {
                any();
            }
        }
        return wrong;
    }

    private void any() throws ReflectiveOperationException {
        Method m = calls.get(random.nextInt(calls.size()));
        // What ends much is called less often.
        if (Arrays.asList("town", "feed").contains(m.getName()) && random.nextInt(20) > 0
                || Arrays.asList("die", "live", "year", "rule").contains(m.getName()) && random.nextInt(4) > 0) {
            return;
        }
        Class<?>[] types = m.getParameterTypes();
        Object[] with = new Object[types.length];
        for (int k = 0; k < with.length; k++) {
            if (types[k] == boolean.class) {
                with[k] = random.nextInt(3) > 0;
            } else if (types[k] == long.class) {
                with[k] = random.nextInt(4) > 0 ? (long) random.nextInt(6) : random.nextLong();
            } else {
                with[k] = number(m.getName(), k);
            }
        }
        call(m.getName(), with);
    }

    private int number(String call, int k) {
        if (random.nextInt(40) == 0) {
            int[] odd = {-1, -2, 12, 13, 60, 61, 99, 100, 150, 151, 999, 1000, 9999, 10000,
                Integer.MAX_VALUE, Integer.MIN_VALUE, random.nextInt()};
            return odd[random.nextInt(odd.length)];
        }
        int most;
        switch (call) {
            case "tray": most = k == 2 ? 16 : k == 1 && random.nextInt(3) > 0 ? 1 : 4; break;
            case "write": case "read": most = k == 0 ? 4 : 14; break;
            case "pour": most = k == 0 || k == 2 ? 4 : 9; break;
            case "feed": return random.nextInt();
            case "many": most = 12; break;
            case "surname": most = k == 0 ? surnames() : 5; break;
            case "person": most = k == 0 ? persons() : 11; break;
            case "waiting": most = k == 0 ? 4 : 2; break;
            case "liked": most = k == 0 ? persons() : 4; break;
            case "year": most = random.nextInt(4) == 0 ? 30 : 4; break;
            case "ask": most = k == 0 ? persons() : surnames(); break;
            case "earn": most = k == 0 ? persons() : random.nextInt(9) == 0 ? 1000 : 40; break;
            case "rule": case "recount": most = random.nextInt(3) == 0 ? 11 : 4; break;
            case "wish": most = k == 0 ? persons() : k == 1 ? 4 : 8; break;
            case "gone": case "couplesOf": case "buyers": most = surnames(); break;
            case "livingIn": case "dashesIn": most = 152; break;
            case "bearsIn": most = k == 0 ? persons() : 152; break;
            case "luck": most = k == 0 ? surnames() : k == 1 ? 6 : 18; break;
            case "wed": case "canWed": most = k == 2 ? 4 : persons(); break;
            case "live": most = 10001; break;
            case "lived": most = 6; break;
            case "mean": most = k == 0 ? 10001 : 22; break;
            case "town": case "centuries": case "fault": case "copyNames": most = 5; break;
            default: most = persons();
        }
        return random.nextInt(Math.max(1, most));
    }

    private int persons() {
        return Math.max(1, model.many(1)) + random.nextInt(20) / 19;
    }

    private int surnames() {
        return Math.max(1, model.many(0)) + random.nextInt(20) / 19;
    }

    private void call(String name, Object... with) throws ReflectiveOperationException {
        made++;
        Class<?>[] types = new Class<?>[with.length];
        for (int k = 0; k < with.length; k++) {
            types[k] = with[k] instanceof Integer ? int.class : with[k] instanceof Long ? long.class : boolean.class;
        }
        if (types.length == 3 && name.equals("write")) {
            types[2] = long.class;
        }
        Object got = NineNames.class.getMethod(name, types).invoke(x, with);
        Object want = Model.class.getMethod(name, types).invoke(model, with);
        said.add(name + Arrays.toString(with) + " answered " + got);
        boolean hasStatus = !Arrays.asList("status", "fault", "feed", "top", "bottom").contains(name);
        boolean same = got.equals(want) && x.top() == model.top() && x.bottom() == model.bottom()
                && x.fault(0) == model.fault(0) && x.fault(1) == model.fault(1)
                && (!hasStatus || x.status() == model.status());
        if (!same) {
            wrong = true;
            for (String line : said) {
                System.out.println(line);
            }
            System.out.println("due is " + want + ", status " + x.status() + " for " + model.status()
                    + ", fault " + x.fault(0) + " at " + x.fault(1) + " for " + model.fault(0) + " at " + model.fault(1)
                    + ", fraction " + x.top() + "/" + x.bottom() + " for " + model.top() + "/" + model.bottom());
        }
        // persons() and surnames() ask the model, which moves its status alone.
        model.many(0);
        x.many(0);
    }

    private void readText(String name, String text) throws ReflectiveOperationException {
        // What a call may have left on the tape is read away.
        if (model.taped() > 0) {
            call("centuries", 0);
        }
        said.add("# " + text);
        for (int i = 0; i < text.length() && !wrong; i += 20) {
            call("feed", Arrays.stream(Check.twenty(text, i)).boxed().toArray());
        }
        if (!wrong) {
            call(name, text.length());
        }
    }

    private String pick(List<String> all) {
        return all.isEmpty() ? "nobody" : all.get(random.nextInt(all.size()));
    }

    private String town() {
        boolean odd = made > 0 && random.nextInt(3) == 0;
        StringBuilder text = new StringBuilder();
        int year = 1000 + random.nextInt(2000);
        if (random.nextInt(4) > 0) {
            text.append("year ").append(year).append(';');
        } else {
            year = 1800;
        }
        if (random.nextInt(4) > 0) {
            text.append("most ").append(1 + random.nextInt(random.nextInt(4) == 0 ? 9 : 3)).append(";\n");
        }
        if (random.nextInt(4) > 0) {
            text.append("life ").append(17 + random.nextInt(104)).append("; ");
        }
        List<String> names = new ArrayList<>();
        for (int k = random.nextInt(5) == 0 ? random.nextInt(7) : 2 + random.nextInt(3); k > 0; k--) {
            String name = "s" + (char) ('a' + names.size());
            text.append("name ").append(name).append(random.nextBoolean() ? " worth " + random.nextInt(60) : "").append(';');
            names.add(name);
        }
        List<String> people = new ArrayList<>();
        for (int k = odd ? random.nextInt(14) : 3 + random.nextInt(9); k > 0; k--) {
            String name = "" + (char) ('a' + people.size());
            text.append("person ").append(name).append(" born ").append(Math.max(1000, year - random.nextInt(90)));
            text.append(random.nextInt(4) > 0 && !names.isEmpty() ? " of " + pick(names) : "");
            text.append(random.nextInt(3) > 0 ? " coins " + random.nextInt(random.nextInt(5) == 0 ? 1000 : 99) : "");
            text.append(random.nextInt(5) == 0 ? " miser" : "").append(';');
            people.add(name);
        }
        for (int k = random.nextInt(18); k > 0; k--) {
            String one = pick(people);
            switch (random.nextInt(5)) {
                case 0: text.append("child ").append(one).append(" of ").append(pick(people)).append(' ').append(pick(people)); break;
                case 1: text.append("wed ").append(one).append(' ').append(pick(people)); break;
                case 2:
                    text.append("likes ").append(one);
                    for (int n = random.nextInt(4); n > 0; n--) {
                        text.append(' ').append(pick(names));
                    }
                    break;
                default: text.append("waits ").append(one).append(" for ").append(pick(names));
            }
            text.append(';');
        }
        return fit(odd ? spoil(text.toString()) : mend(text.toString()), 900);
    }

    /** Takes out the parts that are faulty, as the model tells them, so that most towns are taken. */
    private String mend(String text) {
        String left = text;
        for (int round = 0; round < 60; round++) {
            Model trial = new Model();
            Check.feed(trial, left);
            if (trial.town(left.length()) >= 0) {
                return left;
            }
            int place = Math.min(trial.fault(1), left.length() - 1);
            int from = left.lastIndexOf(';', place - 1) + 1;
            int to = left.indexOf(';', place);
            if (place < 0 || to < 0) {
                return left;
            }
            left = left.substring(0, from) + left.substring(to + 1);
        }
        return left;
    }

    private String fit(String text, int most) {
        return text.length() <= most ? text : text.substring(0, most);
    }

    private String spoil(String text) {
        StringBuilder s = new StringBuilder(text);
        String signs = "abz019;<>= \n!;;~";
        for (int k = random.nextInt(3); k > 0 && s.length() > 0; k--) {
            int at = random.nextInt(s.length());
            switch (random.nextInt(3)) {
                case 0: s.deleteCharAt(at); break;
                case 1: s.insert(at, signs.charAt(random.nextInt(signs.length()))); break;
                default: s.setCharAt(at, signs.charAt(random.nextInt(signs.length())));
            }
        }
        return s.toString();
    }

    private String centuries() {
        StringBuilder text = new StringBuilder();
        int open = 0;
        for (int k = random.nextInt(25); k > 0; k--) {
            int dice = random.nextInt(20);
            if (dice < 4 && open < (random.nextInt(20) == 0 ? 4 : 3)) {
                open++;
                text.append(dice == 0 ? "when " + test() : "loop " + (1 + random.nextInt(random.nextInt(3) == 0 ? 99 : 5))).append(';');
            } else if (dice < 8 && open > 0) {
                open--;
                text.append("end;");
            } else {
                text.append(step()).append(';');
            }
        }
        while (open-- > 0) {
            text.append("end;");
        }
        return fit(random.nextInt(4) == 0 ? spoil(text.toString()) : text.toString(), 300);
    }

    private String someone() {
        return "" + (char) ('a' + random.nextInt(Math.max(1, Math.min(12, model.many(1)))));
    }

    private String something() {
        return "s" + (char) ('a' + random.nextInt(Math.max(1, model.many(0))));
    }

    private String test() {
        switch (random.nextInt(3)) {
            case 0: return "bears " + someone() + " " + something();
            case 1: return "dash " + someone();
            default: return "free " + something() + "<>=".charAt(random.nextInt(3)) + random.nextInt(4);
        }
    }

    private String step() {
        switch (random.nextInt(9)) {
            case 0: return "year " + (1 + random.nextInt(random.nextInt(4) == 0 ? 20 : 3));
            case 1: return random.nextInt(3) > 0 ? "any" : "die " + someone();
            case 2: return "birth " + someone() + " " + someone();
            case 3: return "wed " + someone() + " " + someone();
            case 4: case 5: return "sell " + someone() + " " + someone();
            case 6: return random.nextInt(4) > 0 ? "any" : "stop";
            default: return "swap " + someone() + " " + someone();
        }
    }
}
