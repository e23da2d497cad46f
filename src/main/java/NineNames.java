import java.util.Arrays;

/** A town in which no name may be borne by more than so many living, as the document tells it. */
public final class NineNames {
    public static final int NONE = -1;

    private static final int FINE = 0;
    private static final int NO_TRAY = 1;
    private static final int NO_SUCH = 2;
    private static final int MISSING = 3;
    private static final int NO_PLACE = 4;
    private static final int NO_NUMBER = 5;
    private static final int BELOW = 6;
    private static final int TOO_MANY = 7;
    private static final int NOTHING = 8;
    private static final int CANNOT = 9;
    private static final int FAULTY = 10;
    private static final int UNLIKE = 11;

    private static final int TAPE_LENGTH = 900;
    private static final int CENTURIES_LENGTH = 300;
    private static final int LAST_YEAR = 2999;
    private static final int FARTHEST = 150;
    private static final int MOST_COINS = 9999;
    private static final int LAST_SEED = 9999;
    private static final int MARKS = 3;

    private int status;
    private long top;
    private long bottom;
    private final Trays trays;
    private final byte[] tape;
    private int taped;
    private final Reader reader;
    private final Town town;
    private final Town draft;
    private final Script script;
    private final Script scriptDraft;
    private final Life life;
    private final Life trial;
    private final Weddings weddings;
    private final Rings market;
    private final Town[] markedTowns;
    private final Script[] markedScripts;
    private int marks;

    public NineNames() {
        bottom = 1;
        trays = new Trays();
        tape = new byte[TAPE_LENGTH];
        reader = new Reader();
        town = new Town();
        draft = new Town();
        script = new Script();
        scriptDraft = new Script();
        life = new Life();
        trial = new Life();
        weddings = new Weddings();
        market = new Rings();
        markedTowns = new Town[MARKS];
        markedScripts = new Script[MARKS];
        for (int k = 0; k < MARKS; k++) {
            markedTowns[k] = new Town();
            markedScripts[k] = new Script();
        }
    }

    public int status() {
        return status;
    }

    public long top() {
        return top;
    }

    public long bottom() {
        return bottom;
    }

    // ---- TRAYS

    public boolean tray(int tray, int sort, int many) {
        if (!Trays.isTray(tray) || !Trays.isSort(sort)) {
            return deny(NO_TRAY);
        }
        if (many > Trays.LONGEST) {
            return deny(NO_NUMBER);
        }
        if (many < 0) {
            return deny(BELOW);
        }
        trays.lay(tray, sort, many);
        return grant();
    }

    public boolean write(int tray, int place, long v) {
        int why = placeTrouble(tray, place);
        if (why != FINE) {
            return deny(why);
        }
        trays.put(tray, place, v);
        return grant();
    }

    public long read(int tray, int place) {
        int why = placeTrouble(tray, place);
        if (why != FINE) {
            return refuse(why);
        }
        status = FINE;
        return trays.at(tray, place);
    }

    public boolean pour(int tray, int i, int to, int j, int many) {
        if (!Trays.isTray(tray) || !Trays.isTray(to)) {
            return deny(NO_TRAY);
        }
        if (trays.isMissing(tray) || trays.isMissing(to)) {
            return deny(MISSING);
        }
        if (trays.sortOf(tray) != trays.sortOf(to)) {
            return deny(UNLIKE);
        }
        if (many < 0) {
            return deny(BELOW);
        }
        if (!trays.hasRow(tray, i, many) || !trays.hasRow(to, j, many)) {
            return deny(NO_PLACE);
        }
        trays.move(tray, i, to, j, many);
        return grant();
    }

    // ---- texts

    public int feed(int a, int b, int c, int d, int e) {
        if (taped + 20 > TAPE_LENGTH) {
            return NONE;
        }
        putOnTape(a);
        putOnTape(b);
        putOnTape(c);
        putOnTape(d);
        putOnTape(e);
        return taped;
    }

    public int town(int n) {
        if (n < 0 || n > taped) {
            return refuse(NO_NUMBER);
        }
        reader.begin(tape, n);
        taped = 0;
        if (!new TownText(reader, draft).readAll()) {
            return refuse(FAULTY);
        }
        town.copyFrom(draft);
        script.clear();
        return answer(town.persons);
    }

    public int centuries(int n) {
        if (n < 0 || n > taped || n > CENTURIES_LENGTH) {
            return refuse(NO_NUMBER);
        }
        reader.begin(tape, n);
        taped = 0;
        if (!new CenturiesText(reader, town, scriptDraft).readAll()) {
            return refuse(FAULTY);
        }
        script.copyFrom(scriptDraft);
        return answer(script.steps);
    }

    public int fault(int what) {
        if (what == 0) {
            return reader.fault;
        }
        return what == 1 ? reader.faultPlace : NONE;
    }

    public int many(int what) {
        switch (what) {
            case 0: return answer(town.surnames);
            case 1: return answer(town.persons);
            case 2: return answer(town.living());
            case 3: return answer(town.dashes());
            case 4: return answer(town.year);
            case 5: return answer(town.most);
            case 6: return answer(town.life);
            case 7: return answer(town.queue.count);
            case 8: return answer(town.told(town.wedTo));
            case 9: return answer(town.told(town.awaySince));
            case 10: return answer(town.livingCoins());
            default: return refuse(NO_NUMBER);
        }
    }

    public int surname(int surname, int what) {
        if (!town.hasSurname(surname)) {
            return refuse(NO_SUCH);
        }
        switch (what) {
            case 0: return answer(town.worth[surname]);
            case 1: return answer(town.free(surname));
            case 2: return answer(town.bearers(surname));
            case 3: return answerIfAny(town.sold[surname]);
            default: return refuse(NO_NUMBER);
        }
    }

    public int person(int person, int what) {
        if (!town.hasPerson(person)) {
            return refuse(NO_SUCH);
        }
        switch (what) {
            case 0: return answer(town.born[person]);
            case 1: return answer(town.age(person));
            case 2: return answerIfAny(town.bears[person]);
            case 3: return answer(town.coins[person]);
            case 4: return answerIfAny(town.wedTo[person]);
            case 5: return answerIfAny(town.parents[2 * person]);
            case 6: return answerIfAny(town.parents[2 * person + 1]);
            case 7: return answerIfAny(town.awaySince[person]);
            case 8: return answer(town.misers >> person & 1);
            case 9: return answer(town.lives(person) ? 1 : 0);
            default: return refuse(NO_NUMBER);
        }
    }

    public int waiting(int k, int what) {
        if (what != 0 && what != 1) {
            return refuse(NO_NUMBER);
        }
        if (k < 0 || k >= town.queue.count) {
            return refuse(NOTHING);
        }
        return answer(what == 0 ? town.queue.who[k] : town.queue.wanted[k]);
    }

    public int liked(int person, int k) {
        if (!town.hasPerson(person)) {
            return refuse(NO_SUCH);
        }
        if (k < 0 || k >= town.likes[person]) {
            return refuse(NOTHING);
        }
        return answer(town.likedAt(person, k));
    }

    public int copyNames(int tray) {
        int why = trayTrouble(tray);
        if (why != FINE) {
            return refuse(why);
        }
        if (trays.length(tray) < town.persons) {
            return refuse(NO_PLACE);
        }
        for (int p = 0; p < town.persons; p++) {
            trays.put(tray, p, town.bears[p]);
        }
        return answer(town.persons);
    }

    // ---- what is done

    public int year(int years) {
        if (years < 1 || years > 99) {
            return refuse(NO_NUMBER);
        }
        if (town.year + years > LAST_YEAR) {
            return refuse(TOO_MANY);
        }
        return answer(town.passYears(years));
    }

    public int die(int person) {
        if (!town.hasPerson(person)) {
            return refuse(NO_SUCH);
        }
        if (!town.lives(person)) {
            return refuse(CANNOT);
        }
        town.bury(person);
        town.settle();
        return answer(Integer.bitCount(town.living()));
    }

    public int birth(int person, int other) {
        if (!arePersons(person, other)) {
            return refuse(NO_SUCH);
        }
        if (!town.canBear(person, other)) {
            return refuse(CANNOT);
        }
        if (town.isFull()) {
            return refuse(TOO_MANY);
        }
        int child = town.bear(person, other);
        town.settle();
        return answer(child);
    }

    public boolean wed(int person, int other, int way) {
        if (!arePersons(person, other)) {
            return deny(NO_SUCH);
        }
        if (!isWay(way)) {
            return deny(NO_NUMBER);
        }
        if (!town.canMarry(person, other, way)) {
            return deny(CANNOT);
        }
        town.marry(person, other, way);
        return done();
    }

    public boolean part(int person, int other) {
        if (!arePersons(person, other)) {
            return deny(NO_SUCH);
        }
        if (town.wedTo[person] != other) {
            return deny(CANNOT);
        }
        town.divorce(person);
        return done();
    }

    public int sell(int person, int other) {
        if (!arePersons(person, other)) {
            return refuse(NO_SUCH);
        }
        if (!town.canHandOver(person, other)) {
            return refuse(CANNOT);
        }
        int cost = town.handOver(person, other);
        town.settle();
        return answer(cost);
    }

    public boolean swap(int person, int other) {
        if (!arePersons(person, other)) {
            return deny(NO_SUCH);
        }
        if (!town.canExchange(person, other)) {
            return deny(CANNOT);
        }
        town.exchange(person, other);
        return done();
    }

    public int duel(int person, int other) {
        if (!arePersons(person, other)) {
            return refuse(NO_SUCH);
        }
        if (!town.canFight(person, other)) {
            return refuse(CANNOT);
        }
        int loser = town.younger(person, other);
        town.bears[loser] = NONE;
        town.settle();
        return answer(loser);
    }

    public boolean abroad(int person, boolean is) {
        if (!town.hasPerson(person)) {
            return deny(NO_SUCH);
        }
        if (!town.lives(person) || town.isAway(person) == is) {
            return deny(CANNOT);
        }
        town.awaySince[person] = is ? town.year : NONE;
        return done();
    }

    public int ask(int person, int surname) {
        if (!town.hasPerson(person) || !town.hasSurname(surname)) {
            return refuse(NO_SUCH);
        }
        if (!town.canAsk(person, surname)) {
            return refuse(CANNOT);
        }
        town.queue.drop(person);
        town.queue.add(person, surname);
        town.settle();
        return answer(town.queue.count);
    }

    public boolean leave(int person) {
        if (!town.hasPerson(person)) {
            return deny(NO_SUCH);
        }
        if (town.queue.placeOf(person) == NONE) {
            return deny(CANNOT);
        }
        town.queue.drop(person);
        return done();
    }

    public int earn(int person, int much) {
        if (!town.hasPerson(person)) {
            return refuse(NO_SUCH);
        }
        if (much < 1 || much > 999) {
            return refuse(NO_NUMBER);
        }
        if (!town.lives(person) || town.coins[person] + much > MOST_COINS) {
            return refuse(CANNOT);
        }
        town.coins[person] += much;
        town.settle();
        return answer(town.coins[person]);
    }

    public boolean rule(int most) {
        if (!isMost(most)) {
            return deny(NO_NUMBER);
        }
        town.most = most;
        return done();
    }

    public boolean wish(int person, int tray, int n) {
        if (!Trays.isTray(tray)) {
            return deny(NO_TRAY);
        }
        if (!town.hasPerson(person)) {
            return deny(NO_SUCH);
        }
        if (trays.isMissing(tray)) {
            return deny(MISSING);
        }
        if (n > trays.length(tray)) {
            return deny(NO_PLACE);
        }
        if (n < 0 || n > Town.SURNAMES || !tellsSurnames(tray, n)) {
            return deny(NO_NUMBER);
        }
        town.likes[person] = 0;
        for (int k = 0; k < n; k++) {
            town.like(person, (int) trays.at(tray, k));
        }
        return done();
    }

    // ---- what comes

    public int turn(int person) {
        if (!town.hasPerson(person)) {
            return refuse(NO_SUCH);
        }
        int place = town.queue.placeOf(person);
        if (place == NONE) {
            return refuse(NOTHING);
        }
        int wanted = town.queue.wanted[place];
        draft.copyFrom(town);
        for (int k = 1; k <= FARTHEST; k++) {
            draft.passYear();
            if (draft.livesAs(person, wanted)) {
                return answer(k);
            }
        }
        return refuse(NOTHING);
    }

    public int gone(int surname) {
        if (!town.hasSurname(surname)) {
            return refuse(NO_SUCH);
        }
        draft.copyFrom(town);
        for (int k = 0; k <= FARTHEST; k++) {
            if (draft.bearers(surname) == 0) {
                return answer(k);
            }
            draft.passYear();
        }
        return refuse(NOTHING);
    }

    public int livingIn(int years) {
        if (!isForecast(years)) {
            return refuse(NO_NUMBER);
        }
        lookAhead(years);
        return answer(draft.living());
    }

    public int bearsIn(int person, int years) {
        if (!town.hasPerson(person)) {
            return refuse(NO_SUCH);
        }
        if (!isForecast(years)) {
            return refuse(NO_NUMBER);
        }
        lookAhead(years);
        return answerIfAny(draft.lives(person) ? draft.bears[person] : NONE);
    }

    public int dashesIn(int years) {
        if (!isForecast(years)) {
            return refuse(NO_NUMBER);
        }
        lookAhead(years);
        return answer(Integer.bitCount(draft.dashes()));
    }

    public boolean luck(int surname, int k, int odds) {
        if (!town.hasSurname(surname)) {
            return deny(NO_SUCH);
        }
        if (k < 0 || k > 12 || odds < 0 || odds > 16) {
            return deny(NO_NUMBER);
        }
        int bearers = Integer.bitCount(town.bearers(surname));
        long ways = 0;
        for (int dead = k; dead <= bearers; dead++) {
            ways += choose(bearers, dead) * power(odds, dead) * power(16 - odds, bearers - dead);
        }
        tell(ways, power(16, bearers));
        return grant();
    }

    // ---- weddings

    public int canWed(int person, int other, int way) {
        if (!arePersons(person, other)) {
            return refuse(NO_SUCH);
        }
        if (!isWay(way)) {
            return refuse(NO_NUMBER);
        }
        return answer(town.canMarry(person, other, way) ? 1 : 0);
    }

    public int couples() {
        return answer(weddings.mostCouples(town, NONE));
    }

    public int couplesOf(int surname) {
        if (!town.hasSurname(surname)) {
            return refuse(NO_SUCH);
        }
        return answer(weddings.mostCouples(town, surname));
    }

    public int match(int person) {
        if (!town.hasPerson(person)) {
            return refuse(NO_SUCH);
        }
        return answerIfAny(Weddings.bestFor(town, person));
    }

    public int suitors(int person) {
        if (!town.hasPerson(person)) {
            return refuse(NO_SUCH);
        }
        return answer(Weddings.suitableFor(town, person));
    }

    // ---- RINGS

    public int ringed(int person) {
        if (!town.hasPerson(person)) {
            return refuse(NO_SUCH);
        }
        market.close(town);
        return answerIfAny(market.gets[person]);
    }

    public int rings() {
        market.close(town);
        return answer(market.count);
    }

    public int trade() {
        market.close(town);
        int changed = 0;
        for (int p = 0; p < town.persons; p++) {
            int gets = market.gets[p];
            if (gets != NONE && gets != town.bears[p]) {
                town.bears[p] = gets;
                changed++;
            }
        }
        town.settle();
        return answer(changed);
    }

    public int content() {
        int many = 0;
        for (int p = 0; p < town.persons; p++) {
            boolean pleased = town.likes[p] == 0 || town.likedAt(p, 0) == town.bears[p];
            if (town.takesPart(p) && pleased) {
                many++;
            }
        }
        return answer(many);
    }

    // ---- kin

    public int kin(int person, int other) {
        if (!arePersons(person, other)) {
            return refuse(NO_SUCH);
        }
        return answerIfAny(Kin.steps(town, person, other));
    }

    public int children(int person) {
        if (!town.hasPerson(person)) {
            return refuse(NO_SUCH);
        }
        return answer(Kin.childrenOf(town, person));
    }

    public int elders(int person) {
        if (!town.hasPerson(person)) {
            return refuse(NO_SUCH);
        }
        return answer(Kin.eldersOf(town, person));
    }

    public int near(int person, int other) {
        if (!arePersons(person, other)) {
            return refuse(NO_SUCH);
        }
        if (person == other) {
            return refuse(CANNOT);
        }
        return answer(Kin.areNear(town, person, other) ? 1 : 0);
    }

    public int parents(int person) {
        if (!town.hasPerson(person)) {
            return refuse(NO_SUCH);
        }
        int many = 0;
        for (int one = 0; one < town.persons; one++) {
            for (int two = one + 1; two < town.persons; two++) {
                if (Kin.couldHave(town, person, one, two)) {
                    many++;
                }
            }
        }
        return answer(many);
    }

    public int couldBe(int person, int one, int two) {
        if (!town.hasPerson(person) || !arePersons(one, two)) {
            return refuse(NO_SUCH);
        }
        return answer(Kin.couldHave(town, person, one, two) ? 1 : 0);
    }

    // ---- worth

    public int wealth(int person) {
        if (!town.hasPerson(person)) {
            return refuse(NO_SUCH);
        }
        if (!town.lives(person)) {
            return refuse(CANNOT);
        }
        return answer(town.riches(person));
    }

    public int richest() {
        int best = NONE;
        for (int p = 0; p < town.persons; p++) {
            if (town.lives(p) && (best == NONE || town.riches(p) > town.riches(best))) {
                best = p;
            }
        }
        return answerIfAny(best);
    }

    public int buyers(int surname) {
        if (!town.hasSurname(surname)) {
            return refuse(NO_SUCH);
        }
        int sellers = town.bearers(surname);
        int set = 0;
        for (int p = 0; p < town.persons; p++) {
            for (int q = 0; q < town.persons; q++) {
                if ((sellers >> q & 1) != 0 && town.canHandOver(q, p)) {
                    set |= 1 << p;
                }
            }
        }
        return answer(set);
    }

    public int recount(int most) {
        if (!isMost(most)) {
            return refuse(NO_NUMBER);
        }
        draft.copyFrom(town);
        draft.most = most;
        Arrays.fill(draft.bears, NONE);
        int left = draft.living();
        for (int k = 0; k < Town.PERSONS && left != 0; k++) {
            int next = draft.eldest(left);
            left &= ~(1 << next);
            draft.bears[next] = firstWithPlace(next);
        }
        return answer(Integer.bitCount(draft.dashes()));
    }

    // ---- CENTURIES

    public int live(int seed) {
        if (seed < 0 || seed > LAST_SEED) {
            return refuse(NO_NUMBER);
        }
        if (!script.isThere) {
            return refuse(NOTHING);
        }
        life.run(script, town, seed);
        return answer(life.steps);
    }

    public int lived(int what) {
        if (what < 0 || what > 4) {
            return refuse(NO_NUMBER);
        }
        if (!life.hasRun) {
            return refuse(NOTHING);
        }
        switch (what) {
            case 0: return answer(life.missed);
            case 1: return answer(life.years);
            case 2: return answer(life.births);
            case 3: return answer(life.deaths);
            default: return answer(life.isCut ? 1 : 0);
        }
    }

    public boolean mean(int seed, int many) {
        if (seed < 0 || many < 1 || many > 20 || seed > LAST_SEED - (many - 1)) {
            return deny(NO_NUMBER);
        }
        if (!script.isThere) {
            return deny(NOTHING);
        }
        int dashes = 0;
        for (int k = 0; k < many; k++) {
            draft.copyFrom(town);
            trial.run(script, draft, seed + k);
            dashes += Integer.bitCount(draft.dashes());
        }
        tell(dashes, many);
        return grant();
    }

    // ---- MARKS

    public int mark() {
        if (marks >= MARKS) {
            return refuse(TOO_MANY);
        }
        markedTowns[marks].copyFrom(town);
        markedScripts[marks].copyFrom(script);
        marks++;
        return answer(marks);
    }

    public int back() {
        if (marks <= 0) {
            return refuse(NOTHING);
        }
        marks--;
        town.copyFrom(markedTowns[marks]);
        script.copyFrom(markedScripts[marks]);
        return answer(marks);
    }

    // ---- what the calls share

    private int answer(int value) {
        status = FINE;
        return value;
    }

    private int answerIfAny(int value) {
        return value == NONE ? refuse(NOTHING) : answer(value);
    }

    private int refuse(int why) {
        status = why;
        return NONE;
    }

    private boolean grant() {
        status = FINE;
        return true;
    }

    private boolean deny(int why) {
        status = why;
        return false;
    }

    private boolean done() {
        town.settle();
        return grant();
    }

    private int trayTrouble(int tray) {
        if (!Trays.isTray(tray)) {
            return NO_TRAY;
        }
        return trays.isMissing(tray) ? MISSING : FINE;
    }

    private int placeTrouble(int tray, int place) {
        int why = trayTrouble(tray);
        if (why != FINE) {
            return why;
        }
        return trays.hasRow(tray, place, 1) ? FINE : NO_PLACE;
    }

    private boolean tellsSurnames(int tray, int n) {
        int seen = 0;
        for (int k = 0; k < n; k++) {
            long s = trays.at(tray, k);
            if (s < 0 || s >= town.surnames || (seen >> (int) s & 1) != 0) {
                return false;
            }
            seen |= 1 << (int) s;
        }
        return true;
    }

    private void putOnTape(int four) {
        for (int shift = 24; shift >= 0; shift -= 8) {
            tape[taped] = (byte) (four >> shift);
            taped++;
        }
    }

    private boolean arePersons(int one, int two) {
        return town.hasPerson(one) && town.hasPerson(two);
    }

    private static boolean isWay(int way) {
        return way >= 0 && way <= 2;
    }

    private static boolean isMost(int most) {
        return most >= 1 && most <= 9;
    }

    private static boolean isForecast(int years) {
        return years >= 0 && years <= FARTHEST;
    }

    private void lookAhead(int years) {
        draft.copyFrom(town);
        draft.passYears(years);
    }

    private int firstWithPlace(int person) {
        int had = town.bears[person];
        if (had != NONE && draft.free(had) > 0) {
            return had;
        }
        for (int k = 0; k < town.likes[person]; k++) {
            int s = town.likedAt(person, k);
            if (draft.free(s) > 0) {
                return s;
            }
        }
        return NONE;
    }

    private void tell(long part, long whole) {
        long a = whole;
        long b = part;
        // Euclid's steps on numbers below 2 to the 49th end far below this bound.
        for (int k = 0; k < 200 && b != 0; k++) {
            long rest = a % b;
            a = b;
            b = rest;
        }
        if (a > 0) {
            top = part / a;
            bottom = whole / a;
        }
    }

    private static long choose(int n, int k) {
        long ways = 1;
        for (int i = 1; i <= k; i++) {
            ways = ways * (n - k + i) / i;
        }
        return ways;
    }

    private static long power(int base, int exponent) {
        long product = 1;
        for (int i = 0; i < exponent; i++) {
            product *= base;
        }
        return product;
    }

    /** Four rows of numbers, laid once and used again. */
    static final class Trays {
        static final int LONGEST = 60;
        private static final int MANY = 4;

        private final int[] sorts = new int[MANY];
        private final int[] lengths = new int[MANY];
        private final long[][] rows = new long[MANY][LONGEST];

        Trays() {
            Arrays.fill(lengths, NONE);
        }

        static boolean isTray(int tray) {
            return tray >= 0 && tray < MANY;
        }

        static boolean isSort(int sort) {
            return sort >= 0 && sort <= 3;
        }

        boolean isMissing(int tray) {
            return lengths[tray] == NONE;
        }

        int sortOf(int tray) {
            return sorts[tray];
        }

        int length(int tray) {
            return lengths[tray];
        }

        boolean hasRow(int tray, int from, int many) {
            return from >= 0 && many <= lengths[tray] && from <= lengths[tray] - many;
        }

        void lay(int tray, int sort, int many) {
            sorts[tray] = sort;
            lengths[tray] = many;
            Arrays.fill(rows[tray], 0);
        }

        void put(int tray, int place, long v) {
            rows[tray][place] = cut(sorts[tray], v);
        }

        long at(int tray, int place) {
            return rows[tray][place];
        }

        void move(int from, int i, int to, int j, int many) {
            System.arraycopy(rows[from], i, rows[to], j, many);
        }

        private static long cut(int sort, long v) {
            switch (sort) {
                case 0: return (byte) v;
                case 1: return (short) v;
                case 2: return (int) v;
                default: return v;
            }
        }
    }

    /** Who waits for which surname, in order. */
    static final class Queue {
        final int[] who = new int[Town.PERSONS];
        final int[] wanted = new int[Town.PERSONS];
        int count;

        void copyFrom(Queue other) {
            System.arraycopy(other.who, 0, who, 0, Town.PERSONS);
            System.arraycopy(other.wanted, 0, wanted, 0, Town.PERSONS);
            count = other.count;
        }

        int placeOf(int person) {
            for (int k = 0; k < count; k++) {
                if (who[k] == person) {
                    return k;
                }
            }
            return NONE;
        }

        void add(int person, int surname) {
            if (count < Town.PERSONS) {
                who[count] = person;
                wanted[count] = surname;
                count++;
            }
        }

        void drop(int person) {
            int kept = 0;
            for (int k = 0; k < count; k++) {
                if (who[k] != person) {
                    who[kept] = who[k];
                    wanted[kept] = wanted[k];
                    kept++;
                }
            }
            count = kept;
        }

        /** Drops all who bear already what they wait for. */
        void dropServed(int[] bears) {
            int kept = 0;
            for (int k = 0; k < count; k++) {
                if (bears[who[k]] != wanted[k]) {
                    who[kept] = who[k];
                    wanted[kept] = wanted[k];
                    kept++;
                }
            }
            count = kept;
        }
    }

    /** The town with all that became of it. Sets of persons are bits, 1 for person 0. */
    static final class Town {
        static final int SURNAMES = 6;
        static final int PERSONS = 12;
        private static final int GROWN = 16;
        private static final int LAPSE = 7;
        private static final int UNSOLD = 9;

        int year;
        int most;
        int life;
        int surnames;
        int persons;
        int misers;
        final long[] surnameWords = new long[SURNAMES];
        final int[] worth = new int[SURNAMES];
        final int[] sold = new int[SURNAMES];
        final long[] personWords = new long[PERSONS];
        final int[] born = new int[PERSONS];
        final int[] died = new int[PERSONS];
        final int[] bears = new int[PERSONS];
        final int[] coins = new int[PERSONS];
        final int[] wedTo = new int[PERSONS];
        // Two of each person.
        final int[] parents = new int[2 * PERSONS];
        final int[] awaySince = new int[PERSONS];
        final int[] likes = new int[PERSONS];
        private final int[] likings = new int[PERSONS * SURNAMES];
        final Queue queue = new Queue();

        Town() {
            clear();
        }

        /** Makes this the town of nobody. */
        void clear() {
            year = 1800;
            most = 9;
            life = 80;
            surnames = 0;
            persons = 0;
            misers = 0;
            queue.count = 0;
        }

        void copyFrom(Town other) {
            year = other.year;
            most = other.most;
            life = other.life;
            surnames = other.surnames;
            persons = other.persons;
            misers = other.misers;
            System.arraycopy(other.surnameWords, 0, surnameWords, 0, SURNAMES);
            System.arraycopy(other.worth, 0, worth, 0, SURNAMES);
            System.arraycopy(other.sold, 0, sold, 0, SURNAMES);
            System.arraycopy(other.personWords, 0, personWords, 0, PERSONS);
            System.arraycopy(other.born, 0, born, 0, PERSONS);
            System.arraycopy(other.died, 0, died, 0, PERSONS);
            System.arraycopy(other.bears, 0, bears, 0, PERSONS);
            System.arraycopy(other.coins, 0, coins, 0, PERSONS);
            System.arraycopy(other.wedTo, 0, wedTo, 0, PERSONS);
            System.arraycopy(other.parents, 0, parents, 0, 2 * PERSONS);
            System.arraycopy(other.awaySince, 0, awaySince, 0, PERSONS);
            System.arraycopy(other.likes, 0, likes, 0, PERSONS);
            System.arraycopy(other.likings, 0, likings, 0, PERSONS * SURNAMES);
            queue.copyFrom(other.queue);
        }

        int addSurname(long word) {
            int s = surnames;
            surnameWords[s] = word;
            worth[s] = 10;
            sold[s] = NONE;
            surnames++;
            return s;
        }

        int addPerson(long word, int when) {
            int p = persons;
            personWords[p] = word;
            born[p] = when;
            died[p] = NONE;
            bears[p] = NONE;
            coins[p] = 0;
            wedTo[p] = NONE;
            tellParents(p, NONE, NONE);
            awaySince[p] = NONE;
            likes[p] = 0;
            persons++;
            return p;
        }

        void tellParents(int p, int one, int two) {
            parents[2 * p] = one;
            parents[2 * p + 1] = two;
        }

        boolean hasSurname(int s) {
            return s >= 0 && s < surnames;
        }

        boolean hasPerson(int p) {
            return p >= 0 && p < persons;
        }

        boolean isFull() {
            return persons >= PERSONS;
        }

        boolean lives(int p) {
            return died[p] == NONE;
        }

        boolean livesAs(int p, int surname) {
            return lives(p) && bears[p] == surname;
        }

        boolean takesPart(int p) {
            return lives(p) && bears[p] != NONE;
        }

        boolean isAway(int p) {
            return awaySince[p] != NONE;
        }

        int age(int p) {
            return (lives(p) ? year : died[p]) - born[p];
        }

        private boolean isGrown(int p) {
            return lives(p) && year - born[p] >= GROWN;
        }

        /** The set of those who live. */
        int living() {
            return ((1 << persons) - 1) & ~told(died);
        }

        /** The living who bear a surname, or, for NONE, who bear none. */
        int bearers(int surname) {
            int set = 0;
            for (int p = 0; p < persons; p++) {
                if (bears[p] == surname && died[p] == NONE) {
                    set |= 1 << p;
                }
            }
            return set;
        }

        int dashes() {
            return bearers(NONE);
        }

        int free(int surname) {
            int left = most;
            for (int p = 0; p < persons; p++) {
                if (bears[p] == surname && died[p] == NONE) {
                    left--;
                }
            }
            return left > 0 ? left : 0;
        }

        /** Those of whom a row tells anything. */
        int told(int[] row) {
            int set = 0;
            for (int p = 0; p < persons; p++) {
                if (row[p] != NONE) {
                    set |= 1 << p;
                }
            }
            return set;
        }

        int livingCoins() {
            int sum = 0;
            for (int p = 0; p < persons; p++) {
                if (lives(p)) {
                    sum += coins[p];
                }
            }
            return sum;
        }

        int riches(int p) {
            return bears[p] == NONE ? coins[p] : coins[p] + worth[bears[p]];
        }

        int eldest(int set) {
            int best = NONE;
            for (int p = 0; p < persons; p++) {
                if ((set >> p & 1) != 0 && (best == NONE || born[p] < born[best])) {
                    best = p;
                }
            }
            return best;
        }

        /** The least number in a set; of none, 0. */
        static int least(int set) {
            for (int p = 0; p < PERSONS; p++) {
                if ((set >> p & 1) != 0) {
                    return p;
                }
            }
            return 0;
        }

        int younger(int one, int two) {
            if (born[one] != born[two]) {
                return born[one] > born[two] ? one : two;
            }
            return Math.max(one, two);
        }

        int likedAt(int p, int k) {
            return likings[p * SURNAMES + k];
        }

        boolean hasLiked(int p, int surname) {
            for (int k = 0; k < likes[p]; k++) {
                if (likedAt(p, k) == surname) {
                    return true;
                }
            }
            return false;
        }

        void like(int p, int surname) {
            if (likes[p] < SURNAMES) {
                likings[p * SURNAMES + likes[p]] = surname;
                likes[p]++;
            }
        }

        /** The years with what they bring; the set of those who died in them. */
        int passYears(int years) {
            int dead = 0;
            for (int k = 0; k < years; k++) {
                dead |= passYear();
            }
            return dead;
        }

        int passYear() {
            year++;
            int dead = 0;
            for (int p = 0; p < persons; p++) {
                if (lives(p) && (misers >> p & 1) == 0 && age(p) >= life) {
                    bury(p);
                    dead |= 1 << p;
                }
            }
            for (int p = 0; p < persons; p++) {
                if (isAway(p) && year - awaySince[p] >= LAPSE) {
                    bears[p] = NONE;
                }
            }
            settle();
            return dead;
        }

        void bury(int p) {
            died[p] = year;
            awaySince[p] = NONE;
            queue.drop(p);
            divorce(p);
        }

        void divorce(int p) {
            int other = wedTo[p];
            if (other != NONE) {
                wedTo[other] = NONE;
                wedTo[p] = NONE;
            }
        }

        boolean canBear(int one, int two) {
            return one != two && isGrown(one) && isGrown(two);
        }

        int bear(int one, int two) {
            int name = placeUnder(one);
            if (name == NONE) {
                name = placeUnder(two);
            }
            int child = addPerson(NONE, year);
            bears[child] = name;
            tellParents(child, one, two);
            return child;
        }

        private int placeUnder(int p) {
            return bears[p] != NONE && free(bears[p]) > 0 ? bears[p] : NONE;
        }

        boolean canMarry(int one, int two, int way) {
            if (!canBear(one, two) || wedTo[one] != NONE || wedTo[two] != NONE) {
                return false;
            }
            if (Kin.areNear(this, one, two)) {
                return false;
            }
            return way == 0 || (way == 1 ? canTake(one, bears[two]) : canTake(two, bears[one]));
        }

        private boolean canTake(int p, int surname) {
            return surname != NONE && (bears[p] == surname || free(surname) > 0);
        }

        void marry(int one, int two, int way) {
            wedTo[one] = two;
            wedTo[two] = one;
            if (way == 1) {
                bears[one] = bears[two];
            } else if (way == 2) {
                bears[two] = bears[one];
            }
        }

        boolean canHandOver(int seller, int buyer) {
            int name = bears[seller];
            if (!lives(seller) || !lives(buyer) || name == NONE || bears[buyer] == name) {
                return false;
            }
            boolean rested = sold[name] == NONE || year - sold[name] >= UNSOLD;
            return rested && coins[buyer] >= worth[name];
        }

        int handOver(int seller, int buyer) {
            int name = bears[seller];
            int cost = worth[name];
            coins[buyer] -= cost;
            coins[seller] = Math.min(MOST_COINS, coins[seller] + cost);
            bears[buyer] = name;
            bears[seller] = NONE;
            sold[name] = year;
            return cost;
        }

        boolean canExchange(int one, int two) {
            return lives(one) && lives(two) && bears[one] != bears[two];
        }

        void exchange(int one, int two) {
            int name = bears[one];
            bears[one] = bears[two];
            bears[two] = name;
        }

        boolean canFight(int one, int two) {
            return one != two && takesPart(one) && livesAs(two, bears[one]);
        }

        boolean canAsk(int p, int surname) {
            if (!lives(p) || bears[p] == surname) {
                return false;
            }
            int place = queue.placeOf(p);
            return place == NONE || queue.wanted[place] != surname;
        }

        /** Goes through the queue, as is due behind whatever happens. */
        void settle() {
            queue.dropServed(bears);
            // Each round serves one, who leaves the queue; the next goes from the first on again.
            for (int round = 0; round < PERSONS; round++) {
                int k = 0;
                while (k < queue.count && (awaySince[queue.who[k]] != NONE || free(queue.wanted[k]) <= 0)) {
                    k++;
                }
                if (k >= queue.count) {
                    return;
                }
                int p = queue.who[k];
                bears[p] = queue.wanted[k];
                queue.drop(p);
            }
        }
    }

    /** The tokens of a text one by one, and the first fault that whoever reads them tells. */
    static final class Reader {
        static final int END_OF_TEXT = 0;
        static final int NO_TOKEN = 1;
        static final int WORD = 2;
        static final int NUMBER = 3;
        static final int SIGN = 4;

        static final int STRANGE = 1;
        static final int MISPLACED = 2;
        static final int BAD_NAME = 3;
        static final int BAD_NUMBER = 4;
        static final int AGAIN = 5;
        static final int ONE_TOO_MANY = 6;
        static final int TOO_DEEP = 7;

        // The places of the words in RESERVED.
        static final int YEAR = 0;
        static final int MOST = 1;
        static final int LIFE = 2;
        static final int NAME = 3;
        static final int WORTH = 4;
        static final int PERSON = 5;
        static final int BORN = 6;
        static final int OF = 7;
        static final int COINS = 8;
        static final int MISER = 9;
        static final int CHILD = 10;
        static final int WED = 11;
        static final int LIKES = 12;
        static final int WAITS = 13;
        static final int FOR = 14;
        static final int DIE = 15;
        static final int BIRTH = 16;
        static final int SELL = 17;
        static final int SWAP = 18;
        static final int ANY = 19;
        static final int WHEN = 20;
        static final int BEARS = 21;
        static final int DASH = 22;
        static final int FREE = 23;
        static final int LOOP = 24;
        static final int END = 25;
        static final int STOP = 26;

        private static final String RESERVED =
                "year most life name worth person born of coins miser child wed likes waits for die birth sell swap any when bears dash free loop end stop ";
        private static final int RESERVED_MANY = 27;
        private static final int LONGEST_NAME = 8;
        private static final int LONGEST_NUMBER = 4;

        private final long[] reserved = new long[RESERVED_MANY];
        private byte[] text = new byte[0];
        private int length;
        private int next;
        private int place;
        int kind;
        int number;
        char sign;
        long word;
        // Which reserved word stands here; NONE if it is none.
        int key;
        int fault;
        int faultPlace;

        Reader() {
            fault = NONE;
            faultPlace = NONE;
            int k = 0;
            long packed = 0;
            for (int i = 0; i < RESERVED.length() && k < RESERVED_MANY; i++) {
                char c = RESERVED.charAt(i);
                if (c == ' ') {
                    reserved[k] = packed;
                    packed = 0;
                    k++;
                } else {
                    packed = packed * 32 + (c - 'a' + 1);
                }
            }
        }

        void begin(byte[] bytes, int many) {
            text = bytes;
            length = Math.max(0, Math.min(many, bytes.length));
            next = 0;
            fault = 0;
            faultPlace = NONE;
            advance();
        }

        void advance() {
            while (next < length && (text[next] == ' ' || text[next] == '\n')) {
                next++;
            }
            place = next;
            key = NONE;
            int behindLetters = behindRun('a', 'z');
            int behindDigits = behindRun('0', '9');
            if (next >= length) {
                kind = END_OF_TEXT;
            } else if (behindLetters > place) {
                readWord(behindLetters);
                key = placeIn(reserved, RESERVED_MANY, word);
            } else if (behindDigits > place) {
                readNumber(behindDigits);
            } else {
                readSign();
            }
        }

        private int behindRun(char least, char most) {
            int end = next;
            while (end < length && text[end] >= least && text[end] <= most) {
                end++;
            }
            return end;
        }

        /** Packs the letters in five bits each; a word too long for a name is like no other: NONE. */
        private void readWord(int end) {
            kind = WORD;
            word = end - place > LONGEST_NAME ? NONE : 0;
            for (int k = place; k < end && word != NONE; k++) {
                word = word * 32 + (text[k] - 'a' + 1);
            }
            next = end;
        }

        private void readNumber(int end) {
            kind = end - place > LONGEST_NUMBER ? NO_TOKEN : NUMBER;
            number = 0;
            for (int k = place; k < end && kind == NUMBER; k++) {
                number = number * 10 + (text[k] - '0');
            }
            next = end;
        }

        private void readSign() {
            sign = (char) (text[place] & 255);
            kind = sign == ';' || sign == '<' || sign == '>' || sign == '=' ? SIGN : NO_TOKEN;
            next = place + 1;
        }

        boolean atEnd() {
            return kind == END_OF_TEXT;
        }

        boolean atName() {
            return kind == WORD && word != NONE && key == NONE;
        }

        boolean atCompare() {
            return kind == SIGN && sign != ';';
        }

        boolean fail(int why) {
            fault = why;
            faultPlace = place;
            return false;
        }

        boolean failHere() {
            fault = kind == NO_TOKEN ? STRANGE : MISPLACED;
            faultPlace = place;
            return false;
        }

        boolean takeKey(int wanted) {
            if (key != wanted) {
                return failHere();
            }
            advance();
            return true;
        }

        boolean takeStop() {
            if (kind != SIGN || sign != ';') {
                return failHere();
            }
            advance();
            return true;
        }

        /** The number that stands here, read past; NONE, and a fault, if none from least to most does. */
        int takeNumber(int least, int most) {
            if (kind != NUMBER) {
                failHere();
                return NONE;
            }
            if (number < least || number > most) {
                fail(BAD_NUMBER);
                return NONE;
            }
            int taken = number;
            advance();
            return taken;
        }

        int personHere(Town town) {
            return placeHere(town.personWords, town.persons);
        }

        int surnameHere(Town town) {
            return placeHere(town.surnameWords, town.surnames);
        }

        /** Which of some words the name here is, not read past; NONE, and a fault, if it is none. */
        int placeHere(long[] words, int count) {
            if (!atName()) {
                failHere();
                return NONE;
            }
            int found = placeIn(words, count, word);
            if (found == NONE) {
                fail(BAD_NAME);
            }
            return found;
        }

        boolean isTaken(Town town) {
            return placeIn(town.surnameWords, town.surnames, word) != NONE
                    || placeIn(town.personWords, town.persons, word) != NONE;
        }

        private static int placeIn(long[] words, int count, long word) {
            for (int k = 0; k < count; k++) {
                if (words[k] == word) {
                    return k;
                }
            }
            return NONE;
        }
    }

    /** Reads a town's text into a town; what it leaves of a faulty text is not to be used. */
    static final class TownText {
        private final Reader reader;
        private final Town town;
        private int toldHeads;

        TownText(Reader reader, Town town) {
            this.reader = reader;
            this.town = town;
        }

        boolean readAll() {
            town.clear();
            // Each part takes a byte at least.
            for (int k = 0; k <= TAPE_LENGTH && !reader.atEnd(); k++) {
                if (!readPart() || !reader.takeStop()) {
                    return false;
                }
            }
            return true;
        }

        private boolean readPart() {
            switch (reader.key) {
                case Reader.YEAR:
                case Reader.MOST:
                case Reader.LIFE: return head(reader.key);
                case Reader.NAME: return surnamePart();
                case Reader.PERSON: return personPart();
                case Reader.CHILD: return childPart();
                case Reader.WED: return wedPart();
                case Reader.LIKES: return likesPart();
                case Reader.WAITS: return waitsPart();
                default: return reader.failHere();
            }
        }

        private boolean head(int key) {
            if (town.persons > 0) {
                return reader.fail(Reader.MISPLACED);
            }
            if ((toldHeads >> key & 1) != 0) {
                return reader.fail(Reader.AGAIN);
            }
            toldHeads |= 1 << key;
            reader.advance();
            if (key == Reader.YEAR) {
                town.year = reader.takeNumber(1000, LAST_YEAR);
                return town.year != NONE;
            }
            if (key == Reader.MOST) {
                town.most = reader.takeNumber(1, 9);
                return town.most != NONE;
            }
            town.life = reader.takeNumber(17, 120);
            return town.life != NONE;
        }

        private boolean newNameHere() {
            if (!reader.atName()) {
                return reader.failHere();
            }
            return !reader.isTaken(town) || reader.fail(Reader.BAD_NAME);
        }

        private boolean surnamePart() {
            if (town.surnames >= Town.SURNAMES) {
                return reader.fail(Reader.ONE_TOO_MANY);
            }
            reader.advance();
            if (!newNameHere()) {
                return false;
            }
            int s = town.addSurname(reader.word);
            reader.advance();
            if (reader.key == Reader.WORTH) {
                reader.advance();
                town.worth[s] = reader.takeNumber(0, 99);
                return town.worth[s] != NONE;
            }
            return true;
        }

        private boolean personPart() {
            if (town.isFull()) {
                return reader.fail(Reader.ONE_TOO_MANY);
            }
            reader.advance();
            if (!newNameHere()) {
                return false;
            }
            long word = reader.word;
            reader.advance();
            if (!reader.takeKey(Reader.BORN)) {
                return false;
            }
            int when = reader.takeNumber(1000, town.year);
            if (when == NONE) {
                return false;
            }
            int p = town.addPerson(word, when);
            return ofHere(p) && coinsHere(p) && miserHere(p);
        }

        private boolean ofHere(int p) {
            if (reader.key != Reader.OF) {
                return true;
            }
            reader.advance();
            int s = reader.surnameHere(town);
            if (s == NONE) {
                return false;
            }
            if (town.free(s) <= 0) {
                return reader.fail(Reader.ONE_TOO_MANY);
            }
            town.bears[p] = s;
            reader.advance();
            return true;
        }

        private boolean coinsHere(int p) {
            if (reader.key != Reader.COINS) {
                return true;
            }
            reader.advance();
            town.coins[p] = reader.takeNumber(0, 999);
            return town.coins[p] != NONE;
        }

        private boolean miserHere(int p) {
            if (reader.key == Reader.MISER) {
                town.misers |= 1 << p;
                reader.advance();
            }
            return true;
        }

        /** A person here who is neither of two others, read past. */
        private int otherHere(int one, int two) {
            int p = reader.personHere(town);
            if (p == NONE) {
                return NONE;
            }
            if (p == one || p == two) {
                reader.fail(Reader.AGAIN);
                return NONE;
            }
            reader.advance();
            return p;
        }

        private boolean childPart() {
            reader.advance();
            int child = otherHere(NONE, NONE);
            if (child == NONE || !reader.takeKey(Reader.OF)) {
                return false;
            }
            int one = otherHere(child, NONE);
            if (one == NONE) {
                return false;
            }
            int two = otherHere(child, one);
            if (two == NONE) {
                return false;
            }
            town.tellParents(child, one, two);
            return true;
        }

        private boolean wedPart() {
            reader.advance();
            int one = singleHere(NONE);
            if (one == NONE) {
                return false;
            }
            int two = singleHere(one);
            if (two == NONE) {
                return false;
            }
            town.marry(one, two, 0);
            return true;
        }

        private int singleHere(int but) {
            int p = reader.personHere(town);
            if (p == NONE) {
                return NONE;
            }
            if (p == but || town.wedTo[p] != NONE) {
                reader.fail(Reader.AGAIN);
                return NONE;
            }
            reader.advance();
            return p;
        }

        private boolean likesPart() {
            reader.advance();
            int p = otherHere(NONE, NONE);
            if (p == NONE) {
                return false;
            }
            town.likes[p] = 0;
            // No more than all surnames can be told once each.
            for (int k = 0; k <= Town.SURNAMES && reader.atName(); k++) {
                int s = reader.surnameHere(town);
                if (s == NONE) {
                    return false;
                }
                if (town.hasLiked(p, s)) {
                    return reader.fail(Reader.AGAIN);
                }
                town.like(p, s);
                reader.advance();
            }
            return true;
        }

        private boolean waitsPart() {
            reader.advance();
            int p = reader.personHere(town);
            if (p == NONE) {
                return false;
            }
            if (town.queue.placeOf(p) != NONE) {
                return reader.fail(Reader.AGAIN);
            }
            reader.advance();
            if (!reader.takeKey(Reader.FOR)) {
                return false;
            }
            int s = reader.surnameHere(town);
            if (s == NONE) {
                return false;
            }
            if (town.bears[p] == s) {
                return reader.fail(Reader.AGAIN);
            }
            town.queue.add(p, s);
            reader.advance();
            return true;
        }
    }

    /** Centuries as a row of steps and ends; a when stands under the word of its test. */
    static final class Script {
        static final int STEPS = 30;
        static final int LINES = 2 * STEPS;

        boolean isThere;
        int steps;
        int lines;
        final int[] op = new int[LINES];
        final int[] one = new int[LINES];
        final int[] two = new int[LINES];
        final int[] sign = new int[LINES];
        // Of a when or loop the line of its end, and the other way round.
        final int[] mate = new int[LINES];

        void clear() {
            isThere = false;
            steps = 0;
            lines = 0;
        }

        void copyFrom(Script other) {
            isThere = other.isThere;
            steps = other.steps;
            lines = other.lines;
            System.arraycopy(other.op, 0, op, 0, LINES);
            System.arraycopy(other.one, 0, one, 0, LINES);
            System.arraycopy(other.two, 0, two, 0, LINES);
            System.arraycopy(other.sign, 0, sign, 0, LINES);
            System.arraycopy(other.mate, 0, mate, 0, LINES);
        }

        void add(int what, int first, int second, int compare) {
            if (lines < LINES) {
                op[lines] = what;
                one[lines] = first;
                two[lines] = second;
                sign[lines] = compare;
                mate[lines] = NONE;
                lines++;
            }
        }

        void join(int begin, int end) {
            mate[begin] = end;
            mate[end] = begin;
        }
    }

    /** Reads the text of centuries into a script. */
    static final class CenturiesText {
        private static final int DEEPEST = 3;

        private final Reader reader;
        private final Town town;
        private final Script script;
        private final int[] open = new int[DEEPEST];
        private int depth;

        CenturiesText(Reader reader, Town town, Script script) {
            this.reader = reader;
            this.town = town;
            this.script = script;
        }

        boolean readAll() {
            script.clear();
            // Each line takes a byte at least.
            for (int k = 0; k <= CENTURIES_LENGTH && !reader.atEnd(); k++) {
                boolean good = reader.key == Reader.END ? endLine() : stepLine(reader.key);
                if (!good || !reader.takeStop()) {
                    return false;
                }
            }
            if (depth > 0) {
                return reader.failHere();
            }
            script.isThere = true;
            return true;
        }

        private boolean endLine() {
            if (depth <= 0) {
                return reader.failHere();
            }
            depth--;
            script.add(Reader.END, NONE, NONE, 0);
            script.join(open[depth], script.lines - 1);
            reader.advance();
            return true;
        }

        private static boolean isStep(int key) {
            switch (key) {
                case Reader.YEAR:
                case Reader.DIE:
                case Reader.BIRTH:
                case Reader.WED:
                case Reader.SELL:
                case Reader.SWAP:
                case Reader.ANY:
                case Reader.WHEN:
                case Reader.LOOP:
                case Reader.STOP: return true;
                default: return false;
            }
        }

        private static boolean isTest(int key) {
            return key == Reader.BEARS || key == Reader.DASH || key == Reader.FREE;
        }

        private boolean stepLine(int key) {
            if (!isStep(key)) {
                return reader.failHere();
            }
            if (script.steps >= Script.STEPS) {
                return reader.fail(Reader.ONE_TOO_MANY);
            }
            boolean opens = key == Reader.WHEN || key == Reader.LOOP;
            if (opens && depth >= DEEPEST) {
                return reader.fail(Reader.TOO_DEEP);
            }
            reader.advance();
            int what = key;
            if (key == Reader.WHEN) {
                what = reader.key;
                if (!isTest(what)) {
                    return reader.failHere();
                }
                reader.advance();
            }
            if (opens) {
                open[depth] = script.lines;
                depth++;
            }
            script.steps++;
            return readRest(what);
        }

        private boolean readRest(int key) {
            switch (key) {
                case Reader.YEAR: return numberUpTo(key, 20);
                case Reader.LOOP: return numberUpTo(key, 99);
                case Reader.DIE:
                case Reader.DASH: return onePerson(key);
                case Reader.BEARS: return bearsTest();
                case Reader.FREE: return freeTest();
                case Reader.ANY:
                case Reader.STOP: return wordAlone(key);
                default: return twoPersons(key);
            }
        }

        private boolean wordAlone(int key) {
            script.add(key, NONE, NONE, 0);
            return true;
        }

        private boolean numberUpTo(int key, int most) {
            int n = reader.takeNumber(1, most);
            if (n == NONE) {
                return false;
            }
            script.add(key, n, NONE, 0);
            return true;
        }

        private int takePerson() {
            int p = reader.placeHere(town.personWords, town.persons);
            if (p != NONE) {
                reader.advance();
            }
            return p;
        }

        private int takeSurname() {
            int s = reader.placeHere(town.surnameWords, town.surnames);
            if (s != NONE) {
                reader.advance();
            }
            return s;
        }

        private boolean onePerson(int key) {
            int p = takePerson();
            if (p == NONE) {
                return false;
            }
            script.add(key, p, NONE, 0);
            return true;
        }

        private boolean twoPersons(int key) {
            int p = takePerson();
            if (p == NONE) {
                return false;
            }
            int q = takePerson();
            if (q == NONE) {
                return false;
            }
            script.add(key, p, q, 0);
            return true;
        }

        private boolean bearsTest() {
            int p = takePerson();
            if (p == NONE) {
                return false;
            }
            int s = takeSurname();
            if (s == NONE) {
                return false;
            }
            script.add(Reader.BEARS, p, s, 0);
            return true;
        }

        private boolean freeTest() {
            int s = takeSurname();
            if (s == NONE) {
                return false;
            }
            if (!reader.atCompare()) {
                return reader.failHere();
            }
            int compare = reader.sign;
            reader.advance();
            int n = reader.takeNumber(0, 9);
            if (n == NONE) {
                return false;
            }
            script.add(Reader.FREE, s, n, compare);
            return true;
        }
    }

    /** One run of centuries over a town, and what it counted. */
    static final class Life {
        private static final int STEPS_MOST = 300;
        // Between two steps at most three ends are come to.
        private static final int LINES_MOST = 5 * STEPS_MOST;

        int steps;
        int missed;
        int years;
        int births;
        int deaths;
        boolean isCut;
        boolean hasRun;
        private int seed;
        private final int[] turns = new int[Script.LINES];

        void run(Script script, Town town, int from) {
            steps = 0;
            missed = 0;
            years = 0;
            births = 0;
            deaths = 0;
            isCut = false;
            hasRun = true;
            seed = from;
            int at = 0;
            for (int k = 0; k < LINES_MOST && at < script.lines; k++) {
                int op = script.op[at];
                if (op == Reader.END) {
                    at = behindEnd(script, at);
                    continue;
                }
                if (steps >= STEPS_MOST) {
                    isCut = true;
                    return;
                }
                steps++;
                if (op == Reader.STOP) {
                    return;
                }
                if (script.mate[at] != NONE) {
                    at = inside(script, town, at);
                    continue;
                }
                if (act(town, op, script.one[at], script.two[at])) {
                    town.settle();
                } else {
                    missed++;
                }
                at++;
            }
        }

        private int behindEnd(Script script, int at) {
            int begin = script.mate[at];
            if (begin != NONE && script.op[begin] == Reader.LOOP && turns[begin] > 1) {
                turns[begin]--;
                return begin + 1;
            }
            return at + 1;
        }

        /** The line that comes behind a when or loop. */
        private int inside(Script script, Town town, int at) {
            int end = script.mate[at];
            if (script.op[at] != Reader.LOOP) {
                return holds(script, town, at) ? at + 1 : end + 1;
            }
            turns[at] = script.one[at];
            // Going round an empty loop would do nothing.
            return end == at + 1 ? end + 1 : at + 1;
        }

        private static boolean holds(Script script, Town town, int at) {
            int one = script.one[at];
            switch (script.op[at]) {
                case Reader.BEARS: return town.livesAs(one, script.two[at]);
                case Reader.DASH: return town.livesAs(one, NONE);
                default: return compares(town.free(one), script.sign[at], script.two[at]);
            }
        }

        private static boolean compares(int left, int sign, int right) {
            if (sign == '<') {
                return left < right;
            }
            return sign == '>' ? left > right : left == right;
        }

        private boolean act(Town town, int op, int one, int two) {
            switch (op) {
                case Reader.YEAR: return letYearsPass(town, one);
                case Reader.DIE: return bury(town, one);
                case Reader.BIRTH: return bear(town, one, two);
                case Reader.WED: return marry(town, one, two);
                case Reader.SELL: return handOver(town, one, two);
                case Reader.SWAP: return exchange(town, one, two);
                default: return bury(town, drawLiving(town));
            }
        }

        private boolean letYearsPass(Town town, int many) {
            if (town.year + many > LAST_YEAR) {
                return false;
            }
            deaths += Integer.bitCount(town.passYears(many));
            years += many;
            return true;
        }

        private boolean bury(Town town, int p) {
            if (p == NONE || !town.lives(p)) {
                return false;
            }
            town.bury(p);
            deaths++;
            return true;
        }

        private boolean bear(Town town, int one, int two) {
            if (!town.canBear(one, two) || town.isFull()) {
                return false;
            }
            town.bear(one, two);
            births++;
            return true;
        }

        private static boolean marry(Town town, int one, int two) {
            if (!town.canMarry(one, two, 0)) {
                return false;
            }
            town.marry(one, two, 0);
            return true;
        }

        private static boolean handOver(Town town, int one, int two) {
            if (!town.canHandOver(one, two)) {
                return false;
            }
            town.handOver(one, two);
            return true;
        }

        private static boolean exchange(Town town, int one, int two) {
            if (!town.canExchange(one, two)) {
                return false;
            }
            town.exchange(one, two);
            return true;
        }

        private int drawLiving(Town town) {
            int many = Integer.bitCount(town.living());
            if (many == 0) {
                return NONE;
            }
            seed = (seed * 2971 + 10709) % 65536;
            int left = seed / 8 % many;
            for (int p = 0; p < town.persons; p++) {
                if (town.lives(p)) {
                    if (left == 0) {
                        return p;
                    }
                    left--;
                }
            }
            return NONE;
        }
    }

    /** Who can be wed to whom, and how many at once. */
    static final class Weddings {
        private final int[] mates = new int[Town.PERSONS];
        // For each set of persons the most couples within it.
        private final byte[] best = new byte[1 << Town.PERSONS];

        static int suitableFor(Town town, int p) {
            int set = 0;
            for (int q = 0; q < town.persons; q++) {
                if (town.canMarry(p, q, 0)) {
                    set |= 1 << q;
                }
            }
            return set;
        }

        static int bestFor(Town town, int p) {
            int found = NONE;
            int greatest = NONE;
            for (int q = 0; q < town.persons; q++) {
                if (town.canMarry(p, q, 1) && town.worth[town.bears[q]] > greatest) {
                    found = q;
                    greatest = town.worth[town.bears[q]];
                }
            }
            return found;
        }

        /** The most couples of whom one at least bears a surname; of all, for NONE. */
        int mostCouples(Town town, int surname) {
            int bearers = surname == NONE ? town.living() : town.bearers(surname);
            int all = 0;
            for (int p = 0; p < town.persons; p++) {
                int others = (bearers >> p & 1) != 0 ? town.living() : bearers;
                mates[p] = suitableFor(town, p) & others;
                all |= mates[p];
            }
            best[0] = 0;
            for (int set = 1; set <= all; set++) {
                if ((set & ~all) == 0) {
                    best[set] = mostWithin(set);
                }
            }
            return best[all];
        }

        private byte mostWithin(int set) {
            int p = Town.least(set);
            int rest = set & ~(1 << p);
            int most = best[rest];
            for (int q = p + 1; q < Town.PERSONS; q++) {
                if ((rest & mates[p] & 1 << q) != 0) {
                    most = Math.max(most, best[rest & ~(1 << q)] + 1);
                }
            }
            return (byte) most;
        }
    }

    /** The rings in which all get surnames that they like better. */
    static final class Rings {
        final int[] gets = new int[Town.PERSONS];
        int count;
        private final int[] pointsAt = new int[Town.PERSONS];
        private int in;

        void close(Town town) {
            Arrays.fill(gets, NONE);
            count = 0;
            in = 0;
            for (int p = 0; p < town.persons; p++) {
                if (town.takesPart(p)) {
                    in |= 1 << p;
                }
            }
            // Each round closes a ring of one at least.
            for (int round = 0; round < Town.PERSONS && in != 0; round++) {
                pointAll(town);
                closeFirst(town);
            }
        }

        private void pointAll(Town town) {
            for (int p = 0; p < town.persons; p++) {
                if ((in >> p & 1) != 0) {
                    pointsAt[p] = dearestOf(town, p);
                }
            }
        }

        private int dearestOf(Town town, int p) {
            for (int k = 0; k < town.likes[p]; k++) {
                int s = town.likedAt(p, k);
                if (s == town.bears[p]) {
                    return p;
                }
                int bearers = town.bearers(s) & in;
                if (bearers != 0) {
                    return Town.least(bearers);
                }
            }
            return p;
        }

        /** The first who points round to himself is the least of his ring, and of all rings. */
        private void closeFirst(Town town) {
            for (int p = 0; p < town.persons; p++) {
                int length = (in >> p & 1) != 0 ? lengthFrom(p) : 0;
                if (length > 0) {
                    take(town, p, length);
                    return;
                }
            }
        }

        private int lengthFrom(int p) {
            int q = p;
            for (int length = 1; length <= Town.PERSONS; length++) {
                q = pointsAt[q];
                if (q == p) {
                    return length;
                }
            }
            return 0;
        }

        private void take(Town town, int p, int length) {
            int q = p;
            for (int k = 0; k < length; k++) {
                gets[q] = town.bears[pointsAt[q]];
                in &= ~(1 << q);
                q = pointsAt[q];
            }
            if (length > 1) {
                count++;
            }
        }
    }

    /** Parents and children, and who could be them; the dead count as the living. */
    static final class Kin {
        private static final int AHEAD = 16;

        private static int bit(int p) {
            return p == NONE ? 0 : 1 << p;
        }

        private static int parentsOf(Town town, int p) {
            return bit(town.parents[2 * p]) | bit(town.parents[2 * p + 1]);
        }

        static int childrenOf(Town town, int p) {
            int set = 0;
            for (int q = 0; q < town.persons; q++) {
                if (town.parents[2 * q] == p || town.parents[2 * q + 1] == p) {
                    set |= 1 << q;
                }
            }
            return set;
        }

        static boolean areNear(Town town, int one, int two) {
            int ofOne = parentsOf(town, one);
            int ofTwo = parentsOf(town, two);
            return (ofOne & ofTwo) != 0 || (ofOne & bit(two)) != 0 || (ofTwo & bit(one)) != 0;
        }

        /** Told parents may go round, so one can be among his own elders. */
        static int eldersOf(Town town, int p) {
            int set = parentsOf(town, p);
            for (int round = 0; round < Town.PERSONS; round++) {
                for (int q = 0; q < town.persons; q++) {
                    if ((set >> q & 1) != 0) {
                        set |= parentsOf(town, q);
                    }
                }
            }
            return set;
        }

        static int steps(Town town, int from, int to) {
            int reached = bit(from);
            for (int many = 0; many <= Town.PERSONS; many++) {
                if ((reached & bit(to)) != 0) {
                    return many;
                }
                reached |= around(town, reached);
            }
            return NONE;
        }

        private static int around(Town town, int set) {
            int wider = 0;
            for (int q = 0; q < town.persons; q++) {
                if ((set >> q & 1) != 0) {
                    wider |= parentsOf(town, q) | childrenOf(town, q);
                }
            }
            return wider;
        }

        static boolean couldHave(Town town, int child, int one, int two) {
            int latest = town.born[child] - AHEAD;
            if (one == two || town.born[one] > latest || town.born[two] > latest) {
                return false;
            }
            int name = town.bears[child];
            boolean oneDoes = town.bears[one] == name;
            boolean twoDoes = town.bears[two] == name;
            return name == NONE ? oneDoes && twoDoes : oneDoes || twoDoes;
        }
    }
}
