import java.math.BigInteger;
import java.util.ArrayList;
import java.util.Arrays;
import java.util.Collections;
import java.util.Comparator;
import java.util.HashMap;
import java.util.HashSet;
import java.util.LinkedHashMap;
import java.util.List;
import java.util.Map;
import java.util.Set;
import java.util.TreeMap;
import java.util.regex.Matcher;
import java.util.regex.Pattern;

/**
 * The document told a second time, with the whole library and without a thought of speed, so that random runs can be
 * held against it. It shares no line with the class it checks.
 */
public final class Model {
    private static final Set<String> RESERVED = new HashSet<>(Arrays.asList(("year most life name worth person born of "
            + "coins miser child wed likes waits for die birth sell swap any when bears dash free loop end stop").split(" ")));

    static final class Person {
        String name = "";
        int born;
        Integer died;
        Integer bears;
        int coins;
        boolean miser;
        Integer wed;
        Integer one;
        Integer two;
        Integer away;
        List<Integer> likes = new ArrayList<>();

        Person copy() {
            Person p = new Person();
            p.name = name;
            p.born = born;
            p.died = died;
            p.bears = bears;
            p.coins = coins;
            p.miser = miser;
            p.wed = wed;
            p.one = one;
            p.two = two;
            p.away = away;
            p.likes = new ArrayList<>(likes);
            return p;
        }

        boolean lives() {
            return died == null;
        }
    }

    static final class State {
        int year = 1800;
        int most = 9;
        int life = 80;
        List<String> surnames = new ArrayList<>();
        List<Integer> worth = new ArrayList<>();
        Map<Integer, Integer> sold = new HashMap<>();
        List<Person> people = new ArrayList<>();
        LinkedHashMap<Integer, Integer> queue = new LinkedHashMap<>();
        List<Step> steps = null;

        State copy() {
            State s = new State();
            s.year = year;
            s.most = most;
            s.life = life;
            s.surnames.addAll(surnames);
            s.worth.addAll(worth);
            s.sold.putAll(sold);
            for (Person p : people) {
                s.people.add(p.copy());
            }
            s.queue.putAll(queue);
            s.steps = steps;
            return s;
        }

        List<Integer> who(java.util.function.Predicate<Person> test) {
            List<Integer> all = new ArrayList<>();
            for (int p = 0; p < people.size(); p++) {
                if (test.test(people.get(p))) {
                    all.add(p);
                }
            }
            return all;
        }

        List<Integer> bearers(int s) {
            return who(p -> p.lives() && p.bears != null && p.bears == s);
        }

        int free(int s) {
            return Math.max(0, most - bearers(s).size());
        }

        void queue() {
            queue.entrySet().removeIf(e -> e.getValue().equals(people.get(e.getKey()).bears));
            boolean again = true;
            while (again) {
                again = false;
                for (Map.Entry<Integer, Integer> e : queue.entrySet()) {
                    Person p = people.get(e.getKey());
                    if (p.away == null && free(e.getValue()) > 0) {
                        p.bears = e.getValue();
                        queue.remove(e.getKey());
                        again = true;
                        break;
                    }
                }
            }
        }

        void kill(int who) {
            Person p = people.get(who);
            p.died = year;
            p.away = null;
            queue.remove(who);
            if (p.wed != null) {
                people.get(p.wed).wed = null;
                p.wed = null;
            }
        }

        List<Integer> year() {
            year++;
            List<Integer> dead = who(p -> p.lives() && !p.miser && year - p.born >= life);
            for (int p : dead) {
                kill(p);
            }
            for (Person p : people) {
                if (p.away != null && year - p.away >= 7) {
                    p.bears = null;
                }
            }
            queue();
            return dead;
        }

        boolean grown(int p) {
            return people.get(p).lives() && year - people.get(p).born >= 16;
        }

        boolean isParent(int parent, int child) {
            Person c = people.get(child);
            return c.one != null && (c.one == parent || c.two == parent);
        }

        boolean near(int p, int q) {
            if (isParent(p, q) || isParent(q, p)) {
                return true;
            }
            for (int r = 0; r < people.size(); r++) {
                if (isParent(r, p) && isParent(r, q)) {
                    return true;
                }
            }
            return false;
        }

        boolean canWed(int p, int q, int way) {
            if (p == q || !grown(p) || !grown(q) || people.get(p).wed != null || people.get(q).wed != null || near(p, q)) {
                return false;
            }
            if (way == 0) {
                return true;
            }
            Integer name = people.get(way == 1 ? q : p).bears;
            Integer old = people.get(way == 1 ? p : q).bears;
            return name != null && (name.equals(old) || free(name) > 0);
        }

        void wed(int p, int q, int way) {
            people.get(p).wed = q;
            people.get(q).wed = p;
            if (way == 1) {
                people.get(p).bears = people.get(q).bears;
            }
            if (way == 2) {
                people.get(q).bears = people.get(p).bears;
            }
        }

        boolean canSell(int p, int q) {
            Person seller = people.get(p);
            Person buyer = people.get(q);
            if (!seller.lives() || !buyer.lives() || seller.bears == null || seller.bears.equals(buyer.bears)) {
                return false;
            }
            int s = seller.bears;
            return buyer.coins >= worth.get(s) && !(sold.containsKey(s) && year - sold.get(s) < 9);
        }

        int sell(int p, int q) {
            int s = people.get(p).bears;
            people.get(q).coins -= worth.get(s);
            people.get(p).coins = Math.min(9999, people.get(p).coins + worth.get(s));
            people.get(q).bears = s;
            people.get(p).bears = null;
            sold.put(s, year);
            return worth.get(s);
        }

        boolean canSwap(int p, int q) {
            return people.get(p).lives() && people.get(q).lives()
                    && !java.util.Objects.equals(people.get(p).bears, people.get(q).bears);
        }

        void swap(int p, int q) {
            Integer had = people.get(p).bears;
            people.get(p).bears = people.get(q).bears;
            people.get(q).bears = had;
        }

        int birth(int p, int q) {
            Person child = new Person();
            child.born = year;
            child.one = p;
            child.two = q;
            for (int parent : new int[] {p, q}) {
                Integer name = people.get(parent).bears;
                if (child.bears == null && name != null && free(name) > 0) {
                    child.bears = name;
                }
            }
            people.add(child);
            return people.size() - 1;
        }

        int dashes() {
            return who(p -> p.lives() && p.bears == null).size();
        }
    }

    private State now = new State();
    private final List<State> marks = new ArrayList<>();
    private final long[][] trays = new long[4][];
    private final int[] sorts = new int[4];
    private StringBuilder tape = new StringBuilder();
    private int status;
    private int fault = -1;
    private int faultPlace = -1;
    private BigInteger top = BigInteger.ZERO;
    private BigInteger bottom = BigInteger.ONE;
    private int[] lived;

    public int status() {
        return status;
    }

    public long top() {
        return top.longValueExact();
    }

    public long bottom() {
        return bottom.longValueExact();
    }

    private int no(int why) {
        status = why;
        return -1;
    }

    private boolean not(int why) {
        status = why;
        return false;
    }

    private int yes(int value) {
        status = 0;
        return value;
    }

    private int yesOr8(Integer value) {
        return value == null ? no(8) : yes(value);
    }

    private boolean did() {
        now.queue();
        status = 0;
        return true;
    }

    private boolean isPerson(int... all) {
        return Arrays.stream(all).allMatch(p -> p >= 0 && p < now.people.size());
    }

    private boolean isSurname(int s) {
        return s >= 0 && s < now.surnames.size();
    }

    private static int set(List<Integer> all) {
        return all.stream().mapToInt(p -> 1 << p).sum();
    }

    private void fraction(BigInteger part, BigInteger whole) {
        BigInteger divisor = part.gcd(whole);
        top = part.divide(divisor);
        bottom = whole.divide(divisor);
        status = 0;
    }

    public boolean tray(int tray, int sort, int many) {
        if (tray < 0 || tray > 3 || sort < 0 || sort > 3) {
            return not(1);
        }
        if (many > 60) {
            return not(5);
        }
        if (many < 0) {
            return not(6);
        }
        trays[tray] = new long[many];
        sorts[tray] = sort;
        status = 0;
        return true;
    }

    private int trayTrouble(int tray, int place) {
        if (tray < 0 || tray > 3) {
            return 1;
        }
        if (trays[tray] == null) {
            return 3;
        }
        return place < 0 || place >= trays[tray].length ? 4 : 0;
    }

    private void put(int tray, int place, long v) {
        int spare = 64 - (8 << sorts[tray]);
        trays[tray][place] = v << spare >> spare;
    }

    public boolean write(int tray, int place, long v) {
        int why = trayTrouble(tray, place);
        if (why != 0) {
            return not(why);
        }
        put(tray, place, v);
        status = 0;
        return true;
    }

    public long read(int tray, int place) {
        int why = trayTrouble(tray, place);
        if (why != 0) {
            return no(why);
        }
        status = 0;
        return trays[tray][place];
    }

    public boolean pour(int tray, int i, int to, int j, int many) {
        if (tray < 0 || tray > 3 || to < 0 || to > 3) {
            return not(1);
        }
        if (trays[tray] == null || trays[to] == null) {
            return not(3);
        }
        if (sorts[tray] != sorts[to]) {
            return not(11);
        }
        if (many < 0) {
            return not(6);
        }
        if (i < 0 || j < 0 || (long) i + many > trays[tray].length || (long) j + many > trays[to].length) {
            return not(4);
        }
        long[] was = trays[tray].clone();
        for (int k = 0; k < many; k++) {
            trays[to][j + k] = was[i + k];
        }
        status = 0;
        return true;
    }

    public int feed(int a, int b, int c, int d, int e) {
        if (tape.length() > 880) {
            return -1;
        }
        for (int v : new int[] {a, b, c, d, e}) {
            for (byte x : java.nio.ByteBuffer.allocate(4).putInt(v).array()) {
                tape.append((char) (x & 255));
            }
        }
        return tape.length();
    }

    // ---- the texts: a list of tokens, each with its place; a fault ends all by an exception

    @SuppressWarnings("serial")
    private static final class Fault extends RuntimeException {
        final int kind;
        final int place;

        Fault(int kind, int place) {
            this.kind = kind;
            this.place = place;
        }
    }

    private static final class Tokens {
        final List<String> all = new ArrayList<>();
        final List<Integer> places = new ArrayList<>();
        int at = 0;

        Tokens(String text) {
            Matcher m = Pattern.compile("[a-z]+|[0-9]+|[;<>=]|[ \n]+|(?s:.)").matcher(text);
            while (m.find()) {
                if (!m.group().matches("[ \n]+")) {
                    all.add(m.group());
                    places.add(m.start());
                }
            }
            all.add("");
            places.add(text.length());
        }

        String look() {
            String t = all.get(at);
            if (!t.matches("[a-z]*|[0-9]{1,4}|[;<>=]")) {
                throw fault(1);
            }
            return t;
        }

        Fault fault(int kind) {
            return new Fault(kind, places.get(at));
        }

        boolean has(String t) {
            return look().equals(t);
        }

        boolean skip(String t) {
            boolean is = has(t);
            if (is) {
                at++;
            }
            return is;
        }

        void need(String t) {
            if (!skip(t)) {
                throw fault(2);
            }
        }

        String name() {
            String t = look();
            if (!t.matches("[a-z]{1,8}") || RESERVED.contains(t)) {
                throw fault(2);
            }
            return t;
        }

        int number(int least, int most) {
            String t = look();
            if (!t.matches("[0-9]+")) {
                throw fault(2);
            }
            int n = Integer.parseInt(t);
            if (n < least || n > most) {
                throw fault(4);
            }
            at++;
            return n;
        }

        int surname(State s) {
            int k = s.surnames.indexOf(name());
            if (k < 0) {
                throw fault(3);
            }
            return k;
        }

        int person(State s) {
            String t = name();
            for (int p = 0; p < s.people.size(); p++) {
                if (s.people.get(p).name.equals(t)) {
                    return p;
                }
            }
            throw fault(3);
        }

        void check(boolean bad, int kind) {
            if (bad) {
                throw fault(kind);
            }
            at++;
        }
    }

    private static State readTown(String text) {
        State s = new State();
        Tokens t = new Tokens(text);
        Set<String> told = new HashSet<>();
        while (!t.has("")) {
            String word = t.look();
            switch (word) {
                case "year":
                case "most":
                case "life":
                    if (!s.people.isEmpty()) {
                        throw t.fault(2);
                    }
                    t.check(!told.add(word), 5);
                    if (word.equals("year")) {
                        s.year = t.number(1000, 2999);
                    } else if (word.equals("most")) {
                        s.most = t.number(1, 9);
                    } else {
                        s.life = t.number(17, 120);
                    }
                    break;
                case "name":
                    t.check(s.surnames.size() == 6, 6);
                    s.surnames.add(newName(s, t));
                    s.worth.add(t.skip("worth") ? t.number(0, 99) : 10);
                    break;
                case "person":
                    t.check(s.people.size() == 12, 6);
                    readPerson(s, t);
                    break;
                case "child":
                    t.at++;
                    int child = t.person(s);
                    t.at++;
                    t.need("of");
                    int one = t.person(s);
                    t.check(one == child, 5);
                    int two = t.person(s);
                    t.check(two == child || two == one, 5);
                    s.people.get(child).one = one;
                    s.people.get(child).two = two;
                    break;
                case "wed":
                    t.at++;
                    int a = t.person(s);
                    t.check(s.people.get(a).wed != null, 5);
                    int b = t.person(s);
                    t.check(a == b || s.people.get(b).wed != null, 5);
                    s.wed(a, b, 0);
                    break;
                case "likes":
                    t.at++;
                    List<Integer> likes = new ArrayList<>();
                    s.people.get(t.person(s)).likes = likes;
                    t.at++;
                    while (!t.has(";")) {
                        int like = t.surname(s);
                        t.check(likes.contains(like), 5);
                        likes.add(like);
                    }
                    break;
                case "waits":
                    t.at++;
                    int who = t.person(s);
                    t.check(s.queue.containsKey(who), 5);
                    t.need("for");
                    Integer what = t.surname(s);
                    t.check(what.equals(s.people.get(who).bears), 5);
                    s.queue.put(who, what);
                    break;
                default:
                    throw t.fault(2);
            }
            t.need(";");
        }
        return s;
    }

    private static String newName(State s, Tokens t) {
        String name = t.name();
        t.check(s.surnames.contains(name) || s.people.stream().anyMatch(p -> p.name.equals(name)), 3);
        return name;
    }

    private static void readPerson(State s, Tokens t) {
        Person p = new Person();
        p.name = newName(s, t);
        t.need("born");
        p.born = t.number(1000, s.year);
        if (t.skip("of")) {
            int name = t.surname(s);
            t.check(s.free(name) == 0, 6);
            p.bears = name;
        }
        if (t.skip("coins")) {
            p.coins = t.number(0, 999);
        }
        p.miser = t.skip("miser");
        s.people.add(p);
    }

    /** A step with what it names; a when or loop has a block of its own. */
    private static final class Step {
        String word;
        String test = "";
        int a;
        int b;
        List<Step> block;
    }

    private static List<Step> readSteps(State s, Tokens t, int depth, int[] count) {
        List<Step> block = new ArrayList<>();
        while (true) {
            String word = t.look();
            if (word.isEmpty()) {
                if (depth > 0) {
                    throw t.fault(2);
                }
                return block;
            }
            if (word.equals("end")) {
                t.check(depth == 0, 2);
                return block;
            }
            if (!Arrays.asList("year", "die", "birth", "wed", "sell", "swap", "any", "when", "loop", "stop").contains(word)) {
                throw t.fault(2);
            }
            if (count[0] == 30) {
                throw t.fault(6);
            }
            count[0]++;
            boolean deep = word.equals("when") || word.equals("loop");
            t.check(deep && depth == 3, 7);
            Step step = new Step();
            step.word = word;
            readRest(s, t, step);
            if (deep) {
                t.need(";");
                step.block = readSteps(s, t, depth + 1, count);
            }
            t.need(";");
            block.add(step);
        }
    }

    private static void readRest(State s, Tokens t, Step step) {
        switch (step.word) {
            case "year":
                step.a = t.number(1, 20);
                break;
            case "loop":
                step.a = t.number(1, 99);
                break;
            case "any":
            case "stop":
                break;
            case "die":
                step.a = t.person(s);
                t.at++;
                break;
            case "when":
                step.test = t.look();
                if (t.skip("bears")) {
                    step.a = t.person(s);
                    t.at++;
                    step.b = t.surname(s);
                    t.at++;
                } else if (t.skip("dash")) {
                    step.a = t.person(s);
                    t.at++;
                } else {
                    t.need("free");
                    step.a = t.surname(s);
                    t.at++;
                    step.test = t.look();
                    t.check(!step.test.matches("[<>=]"), 2);
                    step.b = t.number(0, 9);
                }
                break;
            default:
                step.a = t.person(s);
                t.at++;
                step.b = t.person(s);
                t.at++;
        }
    }

    int taped() {
        return tape.length();
    }

    private String takeTape(int n) {
        String text = tape.substring(0, n);
        tape = new StringBuilder();
        fault = 0;
        faultPlace = -1;
        return text;
    }

    private int faulty(Fault f) {
        fault = f.kind;
        faultPlace = f.place;
        return no(10);
    }

    public int town(int n) {
        if (n < 0 || n > tape.length()) {
            return no(5);
        }
        try {
            now = readTown(takeTape(n));
        } catch (Fault f) {
            return faulty(f);
        }
        return yes(now.people.size());
    }

    public int centuries(int n) {
        if (n < 0 || n > tape.length() || n > 300) {
            return no(5);
        }
        int[] count = {0};
        try {
            now.steps = readSteps(now, new Tokens(takeTape(n)), 0, count);
        } catch (Fault f) {
            return faulty(f);
        }
        return yes(count[0]);
    }

    public int fault(int what) {
        return what == 0 ? fault : what == 1 ? faultPlace : -1;
    }

    public int many(int what) {
        switch (what) {
            case 0: return yes(now.surnames.size());
            case 1: return yes(now.people.size());
            case 2: return yes(set(now.who(Person::lives)));
            case 3: return yes(set(now.who(p -> p.lives() && p.bears == null)));
            case 4: return yes(now.year);
            case 5: return yes(now.most);
            case 6: return yes(now.life);
            case 7: return yes(now.queue.size());
            case 8: return yes(set(now.who(p -> p.wed != null)));
            case 9: return yes(set(now.who(p -> p.away != null)));
            case 10: return yes(now.people.stream().filter(Person::lives).mapToInt(p -> p.coins).sum());
            default: return no(5);
        }
    }

    public int surname(int surname, int what) {
        if (!isSurname(surname)) {
            return no(2);
        }
        switch (what) {
            case 0: return yes(now.worth.get(surname));
            case 1: return yes(now.free(surname));
            case 2: return yes(set(now.bearers(surname)));
            case 3: return yesOr8(now.sold.get(surname));
            default: return no(5);
        }
    }

    public int person(int person, int what) {
        if (!isPerson(person)) {
            return no(2);
        }
        Person p = now.people.get(person);
        switch (what) {
            case 0: return yes(p.born);
            case 1: return yes((p.lives() ? now.year : p.died) - p.born);
            case 2: return yesOr8(p.bears);
            case 3: return yes(p.coins);
            case 4: return yesOr8(p.wed);
            case 5: return yesOr8(p.one);
            case 6: return yesOr8(p.two);
            case 7: return yesOr8(p.away);
            case 8: return yes(p.miser ? 1 : 0);
            case 9: return yes(p.lives() ? 1 : 0);
            default: return no(5);
        }
    }

    public int waiting(int k, int what) {
        if (what < 0 || what > 1) {
            return no(5);
        }
        if (k < 0 || k >= now.queue.size()) {
            return no(8);
        }
        List<Integer> row = new ArrayList<>(what == 0 ? now.queue.keySet() : now.queue.values());
        return yes(row.get(k));
    }

    public int liked(int person, int k) {
        if (!isPerson(person)) {
            return no(2);
        }
        List<Integer> likes = now.people.get(person).likes;
        return k < 0 || k >= likes.size() ? no(8) : yes(likes.get(k));
    }

    public int copyNames(int tray) {
        if (tray < 0 || tray > 3) {
            return no(1);
        }
        if (trays[tray] == null) {
            return no(3);
        }
        int many = now.people.size();
        if (trays[tray].length < many) {
            return no(4);
        }
        for (int p = 0; p < many; p++) {
            Integer name = now.people.get(p).bears;
            put(tray, p, name == null ? -1 : name);
        }
        return yes(many);
    }

    public int year(int years) {
        if (years < 1 || years > 99) {
            return no(5);
        }
        if (now.year + years > 2999) {
            return no(7);
        }
        Set<Integer> dead = new HashSet<>();
        for (int k = 0; k < years; k++) {
            dead.addAll(now.year());
        }
        return yes(set(new ArrayList<>(dead)));
    }

    public int die(int person) {
        if (!isPerson(person)) {
            return no(2);
        }
        if (!now.people.get(person).lives()) {
            return no(9);
        }
        now.kill(person);
        did();
        return yes(now.who(Person::lives).size());
    }

    public int birth(int person, int other) {
        if (!isPerson(person, other)) {
            return no(2);
        }
        if (person == other || !now.grown(person) || !now.grown(other)) {
            return no(9);
        }
        if (now.people.size() == 12) {
            return no(7);
        }
        int child = now.birth(person, other);
        did();
        return yes(child);
    }

    public boolean wed(int person, int other, int way) {
        if (!isPerson(person, other)) {
            return not(2);
        }
        if (way < 0 || way > 2) {
            return not(5);
        }
        if (!now.canWed(person, other, way)) {
            return not(9);
        }
        now.wed(person, other, way);
        return did();
    }

    public boolean part(int person, int other) {
        if (!isPerson(person, other)) {
            return not(2);
        }
        if (!Integer.valueOf(other).equals(now.people.get(person).wed)) {
            return not(9);
        }
        now.people.get(person).wed = null;
        now.people.get(other).wed = null;
        return did();
    }

    public int sell(int person, int other) {
        if (!isPerson(person, other)) {
            return no(2);
        }
        if (!now.canSell(person, other)) {
            return no(9);
        }
        int cost = now.sell(person, other);
        did();
        return yes(cost);
    }

    public boolean swap(int person, int other) {
        if (!isPerson(person, other)) {
            return not(2);
        }
        if (!now.canSwap(person, other)) {
            return not(9);
        }
        now.swap(person, other);
        return did();
    }

    public int duel(int person, int other) {
        if (!isPerson(person, other)) {
            return no(2);
        }
        Person p = now.people.get(person);
        Person q = now.people.get(other);
        if (person == other || !p.lives() || !q.lives() || p.bears == null || !p.bears.equals(q.bears)) {
            return no(9);
        }
        int loser = Collections.max(Arrays.asList(person, other),
                Comparator.<Integer>comparingInt(k -> now.people.get(k).born).thenComparingInt(k -> k));
        now.people.get(loser).bears = null;
        did();
        return yes(loser);
    }

    public boolean abroad(int person, boolean is) {
        if (!isPerson(person)) {
            return not(2);
        }
        Person p = now.people.get(person);
        if (!p.lives() || (p.away != null) == is) {
            return not(9);
        }
        p.away = is ? now.year : null;
        return did();
    }

    public int ask(int person, int surname) {
        if (!isPerson(person) || !isSurname(surname)) {
            return no(2);
        }
        Person p = now.people.get(person);
        Integer s = surname;
        if (!p.lives() || s.equals(p.bears) || s.equals(now.queue.get(person))) {
            return no(9);
        }
        now.queue.remove(person);
        now.queue.put(person, s);
        did();
        return yes(now.queue.size());
    }

    public boolean leave(int person) {
        if (!isPerson(person)) {
            return not(2);
        }
        if (now.queue.remove(person) == null) {
            return not(9);
        }
        return did();
    }

    public int earn(int person, int much) {
        if (!isPerson(person)) {
            return no(2);
        }
        if (much < 1 || much > 999) {
            return no(5);
        }
        Person p = now.people.get(person);
        if (!p.lives() || p.coins + much > 9999) {
            return no(9);
        }
        p.coins += much;
        did();
        return yes(p.coins);
    }

    public boolean rule(int most) {
        if (most < 1 || most > 9) {
            return not(5);
        }
        now.most = most;
        return did();
    }

    public boolean wish(int person, int tray, int n) {
        if (tray < 0 || tray > 3) {
            return not(1);
        }
        if (!isPerson(person)) {
            return not(2);
        }
        if (trays[tray] == null) {
            return not(3);
        }
        if (n > trays[tray].length) {
            return not(4);
        }
        if (n < 0 || n > 6) {
            return not(5);
        }
        List<Integer> likes = new ArrayList<>();
        for (int k = 0; k < n; k++) {
            long s = trays[tray][k];
            if (s < 0 || s >= now.surnames.size() || likes.contains((int) s)) {
                return not(5);
            }
            likes.add((int) s);
        }
        now.people.get(person).likes = likes;
        return did();
    }

    private State ahead(int years) {
        State s = now.copy();
        for (int k = 0; k < years; k++) {
            s.year();
        }
        return s;
    }

    public int turn(int person) {
        if (!isPerson(person)) {
            return no(2);
        }
        Integer wanted = now.queue.get(person);
        if (wanted == null) {
            return no(8);
        }
        State s = now.copy();
        for (int k = 1; k <= 150; k++) {
            s.year();
            if (s.bearers(wanted).contains(person)) {
                return yes(k);
            }
        }
        return no(8);
    }

    public int gone(int surname) {
        if (!isSurname(surname)) {
            return no(2);
        }
        State s = now.copy();
        for (int k = 0; k <= 150; k++) {
            if (s.bearers(surname).isEmpty()) {
                return yes(k);
            }
            s.year();
        }
        return no(8);
    }

    public int livingIn(int years) {
        return years < 0 || years > 150 ? no(5) : yes(set(ahead(years).who(Person::lives)));
    }

    public int bearsIn(int person, int years) {
        if (!isPerson(person)) {
            return no(2);
        }
        if (years < 0 || years > 150) {
            return no(5);
        }
        Person p = ahead(years).people.get(person);
        return yesOr8(p.lives() ? p.bears : null);
    }

    public int dashesIn(int years) {
        return years < 0 || years > 150 ? no(5) : yes(ahead(years).dashes());
    }

    public boolean luck(int surname, int k, int odds) {
        if (!isSurname(surname)) {
            return not(2);
        }
        if (k < 0 || k > 12 || odds < 0 || odds > 16) {
            return not(5);
        }
        // How likely each number of deaths is, one bearer after the other.
        int n = now.bearers(surname).size();
        BigInteger[] ways = new BigInteger[n + 1];
        Arrays.fill(ways, BigInteger.ZERO);
        ways[0] = BigInteger.ONE;
        for (int i = 0; i < n; i++) {
            for (int dead = n; dead >= 0; dead--) {
                BigInteger lives = ways[dead].multiply(BigInteger.valueOf(16 - odds));
                BigInteger dies = dead == 0 ? BigInteger.ZERO : ways[dead - 1].multiply(BigInteger.valueOf(odds));
                ways[dead] = lives.add(dies);
            }
        }
        BigInteger sum = BigInteger.ZERO;
        for (int dead = k; dead <= n; dead++) {
            sum = sum.add(ways[dead]);
        }
        fraction(sum, BigInteger.valueOf(16).pow(n));
        return true;
    }

    public int canWed(int person, int other, int way) {
        if (!isPerson(person, other)) {
            return no(2);
        }
        return way < 0 || way > 2 ? no(5) : yes(now.canWed(person, other, way) ? 1 : 0);
    }

    /** The most couples among those from one number on who are not taken yet. */
    private int most(int from, Set<Integer> taken, Integer surname) {
        if (from == now.people.size()) {
            return 0;
        }
        int best = most(from + 1, taken, surname);
        if (taken.contains(from)) {
            return best;
        }
        for (int q = from + 1; q < now.people.size(); q++) {
            boolean does = surname == null || surname.equals(now.people.get(from).bears) || surname.equals(now.people.get(q).bears);
            if (does && !taken.contains(q) && now.canWed(from, q, 0)) {
                taken.add(q);
                best = Math.max(best, 1 + most(from + 1, taken, surname));
                taken.remove(q);
            }
        }
        return best;
    }

    public int couples() {
        return yes(most(0, new HashSet<>(), null));
    }

    public int couplesOf(int surname) {
        return isSurname(surname) ? yes(most(0, new HashSet<>(), surname)) : no(2);
    }

    public int match(int person) {
        if (!isPerson(person)) {
            return no(2);
        }
        Integer best = null;
        for (int q = now.people.size() - 1; q >= 0; q--) {
            if (now.canWed(person, q, 1)) {
                int worth = now.worth.get(now.people.get(q).bears);
                if (best == null || worth >= now.worth.get(now.people.get(best).bears)) {
                    best = q;
                }
            }
        }
        return yesOr8(best);
    }

    public int suitors(int person) {
        if (!isPerson(person)) {
            return no(2);
        }
        List<Integer> all = new ArrayList<>();
        for (int q = 0; q < now.people.size(); q++) {
            if (now.canWed(person, q, 0)) {
                all.add(q);
            }
        }
        return yes(set(all));
    }

    private List<List<Integer>> closedRings(Map<Integer, Integer> gets) {
        List<List<Integer>> rings = new ArrayList<>();
        List<Integer> in = now.who(p -> p.lives() && p.bears != null);
        while (!in.isEmpty()) {
            Map<Integer, Integer> at = new TreeMap<>();
            for (int p : in) {
                Person x = now.people.get(p);
                List<Integer> order = new ArrayList<>(x.likes);
                order.add(x.bears);
                for (int s : order) {
                    List<Integer> there = now.bearers(s);
                    there.retainAll(in);
                    if (!there.isEmpty()) {
                        at.put(p, x.bears == s ? p : there.get(0));
                        break;
                    }
                }
            }
            for (int p : in) {
                List<Integer> ring = new ArrayList<>();
                int q = p;
                while (!ring.contains(q)) {
                    ring.add(q);
                    q = at.get(q);
                }
                if (q == p) {
                    for (int r : ring) {
                        gets.put(r, now.people.get(at.get(r)).bears);
                    }
                    rings.add(ring);
                    in.removeAll(ring);
                    break;
                }
            }
        }
        return rings;
    }

    public int ringed(int person) {
        if (!isPerson(person)) {
            return no(2);
        }
        Map<Integer, Integer> gets = new HashMap<>();
        closedRings(gets);
        return yesOr8(gets.get(person));
    }

    public int rings() {
        return yes((int) closedRings(new HashMap<>()).stream().filter(r -> r.size() > 1).count());
    }

    public int trade() {
        Map<Integer, Integer> gets = new HashMap<>();
        closedRings(gets);
        int changed = 0;
        for (Map.Entry<Integer, Integer> e : gets.entrySet()) {
            Person p = now.people.get(e.getKey());
            if (!p.bears.equals(e.getValue())) {
                changed++;
                p.bears = e.getValue();
            }
        }
        did();
        return yes(changed);
    }

    public int content() {
        return yes(now.who(p -> p.lives() && p.bears != null && (p.likes.isEmpty() || p.likes.get(0).equals(p.bears))).size());
    }

    public int kin(int person, int other) {
        if (!isPerson(person, other)) {
            return no(2);
        }
        // The shortest ways between all, step by step over each in between.
        int n = now.people.size();
        int[][] far = new int[n][n];
        for (int p = 0; p < n; p++) {
            for (int q = 0; q < n; q++) {
                far[p][q] = p == q ? 0 : now.isParent(p, q) || now.isParent(q, p) ? 1 : 99;
            }
        }
        for (int k = 0; k < n; k++) {
            for (int p = 0; p < n; p++) {
                for (int q = 0; q < n; q++) {
                    far[p][q] = Math.min(far[p][q], far[p][k] + far[k][q]);
                }
            }
        }
        return far[person][other] >= 99 ? no(8) : yes(far[person][other]);
    }

    public int children(int person) {
        return isPerson(person) ? yes(set(now.who(p -> p.one != null && (p.one == person || p.two == person)))) : no(2);
    }

    private void climb(int person, Set<Integer> seen) {
        for (int p = 0; p < now.people.size(); p++) {
            if (now.isParent(p, person) && seen.add(p)) {
                climb(p, seen);
            }
        }
    }

    public int elders(int person) {
        if (!isPerson(person)) {
            return no(2);
        }
        Set<Integer> seen = new HashSet<>();
        climb(person, seen);
        return yes(set(new ArrayList<>(seen)));
    }

    public int near(int person, int other) {
        if (!isPerson(person, other)) {
            return no(2);
        }
        return person == other ? no(9) : yes(now.near(person, other) ? 1 : 0);
    }

    private boolean could(int person, int one, int two) {
        Person c = now.people.get(person);
        Person a = now.people.get(one);
        Person b = now.people.get(two);
        if (one == two || one == person || two == person || c.born - a.born < 16 || c.born - b.born < 16) {
            return false;
        }
        if (c.bears == null) {
            return a.bears == null && b.bears == null;
        }
        return c.bears.equals(a.bears) || c.bears.equals(b.bears);
    }

    public int parents(int person) {
        if (!isPerson(person)) {
            return no(2);
        }
        int twice = 0;
        for (int one = 0; one < now.people.size(); one++) {
            for (int two = 0; two < now.people.size(); two++) {
                twice += could(person, one, two) ? 1 : 0;
            }
        }
        return yes(twice / 2);
    }

    public int couldBe(int person, int one, int two) {
        return isPerson(person, one, two) ? yes(could(person, one, two) ? 1 : 0) : no(2);
    }

    private int riches(int person) {
        Person p = now.people.get(person);
        return p.coins + (p.bears == null ? 0 : now.worth.get(p.bears));
    }

    public int wealth(int person) {
        if (!isPerson(person)) {
            return no(2);
        }
        return now.people.get(person).lives() ? yes(riches(person)) : no(9);
    }

    public int richest() {
        List<Integer> all = now.who(Person::lives);
        all.sort(Comparator.comparingInt(p -> -riches(p)));
        return yesOr8(all.isEmpty() ? null : all.get(0));
    }

    public int buyers(int surname) {
        if (!isSurname(surname)) {
            return no(2);
        }
        Set<Integer> all = new HashSet<>();
        for (int seller : now.bearers(surname)) {
            for (int p = 0; p < now.people.size(); p++) {
                if (now.canSell(seller, p)) {
                    all.add(p);
                }
            }
        }
        return yes(set(new ArrayList<>(all)));
    }

    public int recount(int most) {
        if (most < 1 || most > 9) {
            return no(5);
        }
        List<Integer> order = now.who(Person::lives);
        order.sort(Comparator.comparingInt(p -> now.people.get(p).born));
        int[] taken = new int[6];
        int dashes = 0;
        for (int p : order) {
            List<Integer> choice = new ArrayList<>(now.people.get(p).likes);
            if (now.people.get(p).bears != null) {
                choice.add(0, now.people.get(p).bears);
            }
            choice.removeIf(s -> taken[s] >= most);
            if (choice.isEmpty()) {
                dashes++;
            } else {
                taken[choice.get(0)]++;
            }
        }
        return yes(dashes);
    }

    // ---- centuries

    private static final class Run {
        final State s;
        long seed;
        int steps;
        int missed;
        int years;
        int births;
        int deaths;
        boolean left;
        boolean over;

        Run(State s, int seed) {
            this.s = s;
            this.seed = seed;
        }

        void block(List<Step> block) {
            for (Step next : block) {
                if (over) {
                    return;
                }
                if (steps == 300) {
                    left = true;
                    over = true;
                    return;
                }
                steps++;
                step(next);
            }
        }

        private void step(Step step) {
            if (step.word.equals("stop")) {
                over = true;
            } else if (step.word.equals("loop")) {
                for (int k = 0; k < step.a && !over; k++) {
                    block(step.block);
                }
            } else if (step.word.equals("when")) {
                if (holds(step)) {
                    block(step.block);
                }
            } else if (act(step)) {
                s.queue();
            } else {
                missed++;
            }
        }

        private boolean holds(Step t) {
            switch (t.test) {
                case "bears": return s.bearers(t.b).contains(t.a);
                case "dash": return s.people.get(t.a).lives() && s.people.get(t.a).bears == null;
                case "<": return s.free(t.a) < t.b;
                case ">": return s.free(t.a) > t.b;
                default: return s.free(t.a) == t.b;
            }
        }

        private boolean act(Step t) {
            boolean can;
            switch (t.word) {
                case "year":
                    can = s.year + t.a <= 2999;
                    for (int k = 0; can && k < t.a; k++) {
                        deaths += s.year().size();
                        years++;
                    }
                    return can;
                case "die":
                    return dies(t.a);
                case "birth":
                    can = t.a != t.b && s.grown(t.a) && s.grown(t.b) && s.people.size() < 12;
                    if (can) {
                        s.birth(t.a, t.b);
                        births++;
                    }
                    return can;
                case "wed":
                    can = s.canWed(t.a, t.b, 0);
                    if (can) {
                        s.wed(t.a, t.b, 0);
                    }
                    return can;
                case "sell":
                    can = s.canSell(t.a, t.b);
                    if (can) {
                        s.sell(t.a, t.b);
                    }
                    return can;
                case "swap":
                    can = s.canSwap(t.a, t.b);
                    if (can) {
                        s.swap(t.a, t.b);
                    }
                    return can;
                default:
                    List<Integer> all = s.who(Person::lives);
                    if (all.isEmpty()) {
                        return false;
                    }
                    seed = (seed * 2971 + 10709) % 65536;
                    return dies(all.get((int) (seed / 8 % all.size())));
            }
        }

        private boolean dies(int p) {
            if (!s.people.get(p).lives()) {
                return false;
            }
            s.kill(p);
            deaths++;
            return true;
        }
    }

    public int live(int seed) {
        if (seed < 0 || seed > 9999) {
            return no(5);
        }
        if (now.steps == null) {
            return no(8);
        }
        Run run = new Run(now, seed);
        run.block(now.steps);
        lived = new int[] {run.missed, run.years, run.births, run.deaths, run.left ? 1 : 0};
        return yes(run.steps);
    }

    public int lived(int what) {
        if (what < 0 || what > 4) {
            return no(5);
        }
        return lived == null ? no(8) : yes(lived[what]);
    }

    public boolean mean(int seed, int many) {
        if (seed < 0 || seed > 9999 || many < 1 || many > 20 || seed + many - 1 > 9999) {
            return not(5);
        }
        if (now.steps == null) {
            return not(8);
        }
        int sum = 0;
        for (int k = 0; k < many; k++) {
            Run run = new Run(now.copy(), seed + k);
            run.block(now.steps);
            sum += run.s.dashes();
        }
        fraction(BigInteger.valueOf(sum), BigInteger.valueOf(many));
        return true;
    }

    public int mark() {
        if (marks.size() == 3) {
            return no(7);
        }
        marks.add(now.copy());
        return yes(marks.size());
    }

    public int back() {
        if (marks.isEmpty()) {
            return no(8);
        }
        now = marks.remove(marks.size() - 1);
        return yes(marks.size());
    }
}
