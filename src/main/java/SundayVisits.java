import java.util.Arrays;

/** A home on Sundays between two and four. The promises stand in ../shared/DOC.md. */
public final class SundayVisits {
    private static final int BEYOND = -1000001;
    private static final int FULL = BEYOND - 1;
    private static final int KIND = BEYOND - 2;
    private static final int NONE = BEYOND - 3;
    private static final int STATE = BEYOND - 4;
    private static final int MISSING = BEYOND - 5;
    private static final int SIZE = BEYOND - 6;
    private static final int FINDINGS = 7;
    private static final int FINE = 0;

    private static final int CHAIRS = 0;
    private static final int CAKE = 1;
    private static final int VOLUNTEERS = 2;
    private static final int LONG = 3;
    private static final int SETTINGS = 4;

    private static final int PLAIN = 0;
    private static final int LIVELY = 1;
    private static final int SLEEPER = 2;
    private static final int VAGUE = 3;
    private static final int DREAMER = 4;
    private static final int WATCHER = 5;
    private static final int GRANNY = 6;
    private static final int KINDS = 7;

    private static final int OF_KIND = 0;
    private static final int MOOD = 1;
    private static final int FRIEND = 2;
    private static final int WAITS = 3;
    private static final int CAME = 4;

    private static final int NOBODY = -1;
    private static final int ANY = -1;
    private static final int RESIDENTS = 8;
    private static final int PLACES = 6;
    private static final int SETS = 256;
    private static final int SPOTS = 10;
    private static final int SHEETS = 4;
    private static final int SHEET_MOST = 40;
    private static final int TAPE_MOST = 120;
    private static final int LONG_MOST = 12;
    private static final int MOOD_MOST = 99;
    private static final int WELL_FROM = 60;
    private static final int TALLY_MOST = 9999;
    private static final int SUNDAY_MOST = 99999;

    private static final int GO_MOST = 60;
    private static final int AHEAD_MOST = 100;
    private static final int SEARCH_MOST = 200;
    private static final int PLAN_MOST = 40;
    private static final int AWAY_MOST = 20;
    private static final int COME_MOST = 20;
    private static final int ODDS_MOST = 7;

    private static final int ON_PLACE = 0;
    private static final int AS_KIND = 1;
    private static final int WITH_FRIEND = 2;
    private static final int BE_GLAD = 0;
    private static final int BE_SAD = 1;
    private static final int HAVE_COME = 2;

    private final Home live;
    /** Made once and filled anew for each question, since all calls share one room. */
    private final Home trial;
    private final Home kept;
    private boolean keeps;
    private final Tape tape;
    private final Sheet[] sheets;
    private final int[] found;

    public SundayVisits() {
        live = new Home();
        trial = new Home();
        kept = new Home();
        keeps = false;
        tape = new Tape();
        sheets = new Sheet[SHEETS];
        for (int s = 0; s < SHEETS; s++) {
            sheets[s] = new Sheet();
        }
        found = new int[FINDINGS];
    }

    // ---- home, residents

    public int set(int what, int v) {
        if (!settingFits(what, v)) {
            return tell(BEYOND);
        }
        int was = live.settings[what];
        live.settings[what] = v;
        return was;
    }

    public int home(int what) {
        if (!within(what, 0, SETTINGS - 1)) {
            return tell(BEYOND);
        }
        return live.settings[what];
    }

    public int visit(int i, int set) {
        if (!within(i, 0, PLACES - 1) || !within(set, 0, SETS - 1)) {
            return tell(BEYOND);
        }
        int was = live.list[i];
        live.list[i] = set;
        return was;
    }

    public int visits(int i) {
        if (!within(i, 0, PLACES - 1)) {
            return tell(BEYOND);
        }
        return live.list[i];
    }

    public int resident(int kind) {
        if (!within(kind, 0, KINDS - 1)) {
            return tell(BEYOND);
        }
        int number = live.welcome(kind);
        return number == NOBODY ? tell(FULL) : number;
    }

    public int of(int resident, int what) {
        if (!live.has(resident)) {
            return tell(BEYOND);
        }
        Resident one = live.residents[resident];
        switch (what) {
            case OF_KIND:
            case MOOD:
            case FRIEND:
            case WAITS:
            case CAME:
                return one.fact(what);
            case 5:
                return one.seats();
            case 6:
                return one.gains(live.settings[LONG]);
            case 7:
                return one.loses(0);
            case 8:
                return one.shares() ? 1 : 0;
            default:
                return tell(BEYOND);
        }
    }

    public int change(int resident, int what, int v) {
        if (!live.has(resident) || !live.factFits(resident, what, v)) {
            return tell(BEYOND);
        }
        Resident one = live.residents[resident];
        int was = one.fact(what);
        one.become(what, v);
        return was;
    }

    // ---- sundays

    public int go(int n) {
        if (!within(n, 1, GO_MOST)) {
            return tell(BEYOND);
        }
        if (live.sunday + n > SUNDAY_MOST) {
            return tell(STATE);
        }
        live.pass(n);
        return live.moods();
    }

    public int now(int what) {
        switch (what) {
            case 0:
                return live.sunday;
            case 1:
                return live.moods();
            case 2:
                return live.wellOnes();
            case 3:
                live.decide();
                return live.visited;
            case 4:
                live.decide();
                return live.sharing;
            case 5:
                live.decide();
                return live.helped;
            case 6:
                return live.longestWaiting(0);
            case 7:
                return live.visitsHad();
            default:
                return tell(BEYOND);
        }
    }

    // ---- what will be (nothing changes)

    public int ahead(int resident, int what, int n) {
        boolean told = what == MOOD || what == WAITS || what == CAME;
        if (!live.has(resident) || !told || !within(n, 0, AHEAD_MOST)) {
            return tell(BEYOND);
        }
        beginTrial();
        trial.pass(n);
        return trial.residents[resident].fact(what);
    }

    public int glad(int resident, int v) {
        if (!live.has(resident) || !within(v, 0, MOOD_MOST)) {
            return tell(BEYOND);
        }
        return firstSunday(resident, BE_GLAD, v);
    }

    public int sad(int resident, int v) {
        if (!live.has(resident) || !within(v, 0, MOOD_MOST)) {
            return tell(BEYOND);
        }
        return firstSunday(resident, BE_SAD, v);
    }

    public int when(int resident, int v) {
        if (!live.has(resident) || !within(v, 0, TALLY_MOST)) {
            return tell(BEYOND);
        }
        return firstSunday(resident, HAVE_COME, v);
    }

    public int well() {
        beginTrial();
        for (int k = 0; k <= SEARCH_MOST; k++) {
            if (Integer.bitCount(trial.wellOnes()) == trial.size) {
                return k;
            }
            trial.passSunday();
        }
        return tell(NONE);
    }

    // ---- how to visit

    public int longFor(int n) {
        if (!within(n, 0, PLAN_MOST)) {
            return tell(BEYOND);
        }
        int best = leastSetting(LONG);
        int most = -1;
        for (int length = leastSetting(LONG); length <= mostSetting(LONG); length++) {
            tryWith(LONG, length, n);
            int moods = trial.moods();
            if (moods > most) {
                most = moods;
                best = length;
            }
        }
        return best;
    }

    public int chairsFor(int v, int n) {
        if (!within(v, 0, TALLY_MOST) || !within(n, 0, PLAN_MOST)) {
            return tell(BEYOND);
        }
        for (int chairs = leastSetting(CHAIRS); chairs <= mostSetting(CHAIRS); chairs++) {
            tryWith(CHAIRS, chairs, n);
            if (trial.visitsHad() >= v) {
                return chairs;
            }
        }
        return tell(NONE);
    }

    public int volunteersFor(int v, int n) {
        if (!within(v, 0, MOOD_MOST) || !within(n, 0, PLAN_MOST)) {
            return tell(BEYOND);
        }
        for (int helpers = leastSetting(VOLUNTEERS); helpers <= mostSetting(VOLUNTEERS); helpers++) {
            tryWith(VOLUNTEERS, helpers, n);
            if (trial.lowestMood() >= v) {
                return helpers;
            }
        }
        return tell(NONE);
    }

    public int comeOn(int resident, int n) {
        return bestChoice(ON_PLACE, PLACES, resident, n);
    }

    public int kindFor(int resident, int n) {
        return bestChoice(AS_KIND, KINDS, resident, n);
    }

    public int friendFor(int resident, int n) {
        int best = bestChoice(WITH_FRIEND, live.size, resident, n);
        return best < 0 ? best : friendOfChoice(best, resident);
    }

    public int away(int resident, int n) {
        if (!live.has(resident) || !within(n, 0, AWAY_MOST)) {
            return tell(BEYOND);
        }
        int best = NONE;
        int fewest = RESIDENTS;
        for (int absent = 0; absent < 1 << live.size; absent++) {
            // Only fewer ones take the place, so that of as many the least set stays.
            if (isIn(absent, resident) || Integer.bitCount(absent) >= fewest) {
                continue;
            }
            beginTrial();
            trial.keepAway(absent);
            trial.pass(n);
            if (trial.residents[resident].isWell()) {
                best = absent;
                fewest = Integer.bitCount(absent);
            }
        }
        return best == NONE ? tell(NONE) : best;
    }

    // ---- as told

    public int fits(int s, int resident) {
        int lack = lackFor(s, resident);
        if (lack != FINE) {
            return tell(lack);
        }
        int fitting = 0;
        for (int start = 0; start <= MOOD_MOST; start++) {
            if (moodFits(sheets[s], resident, start)) {
                fitting++;
            }
        }
        return fitting;
    }

    public int mood(int s, int resident) {
        int lack = lackFor(s, resident);
        if (lack != FINE) {
            return tell(lack);
        }
        for (int start = 0; start <= MOOD_MOST; start++) {
            if (moodFits(sheets[s], resident, start)) {
                return start;
            }
        }
        return tell(NONE);
    }

    public int kinds(int s, int resident) {
        int lack = lackFor(s, resident);
        if (lack != FINE) {
            return tell(lack);
        }
        int fitting = 0;
        for (int kind = 0; kind < KINDS; kind++) {
            if (kindFits(sheets[s], resident, kind)) {
                fitting |= 1 << kind;
            }
        }
        return fitting;
    }

    // ---- visits by draws

    public int come(int n) {
        if (!within(n, 1, COME_MOST)) {
            return tell(BEYOND);
        }
        if (live.sunday + n > SUNDAY_MOST) {
            return tell(STATE);
        }
        for (int k = 0; k < n; k++) {
            live.list[live.sunday % PLACES] = live.draw() % SETS;
            live.settings[LONG] = 1 + live.draw() % LONG_MOST;
            live.passSunday();
        }
        return live.moods();
    }

    public long odds(int resident, int n, int what) {
        if (!live.has(resident) || !within(n, 0, ODDS_MOST) || !within(what, 0, 1)) {
            return tell(BEYOND);
        }
        int lucky = 0;
        for (int set = 0; set < SETS; set++) {
            if (isIn(live.seated(set), resident)) {
                lucky++;
            }
        }
        int all = SETS;
        // Two is the only prime below the line, so halving is all there is to shorten.
        while (all > 1 && lucky % 2 == 0) {
            lucky /= 2;
            all /= 2;
        }
        return power(what == 0 ? lucky : all, n);
    }

    public int seed(int v) {
        int was = live.z;
        live.z = v;
        return was;
    }

    // ---- texts

    public int feed(int bytes, int n) {
        if (!within(n, 1, 4)) {
            return tell(BEYOND);
        }
        if (tape.length + n > TAPE_MOST) {
            return tell(FULL);
        }
        for (int left = n - 1; left >= 0; left--) {
            tape.append(bytes >>> 8 * left & 255);
        }
        return tape.length;
    }

    public int wipe() {
        int had = tape.length;
        tape.length = 0;
        return had;
    }

    public int text() {
        beginTrial();
        int answer = tape.readInto(trial);
        tape.length = 0;
        if (answer > 0) {
            live.takeAll(trial);
        }
        return answer;
    }

    // ---- spots, sheets

    public int hold(int spot, int resident) {
        if (!within(spot, 0, SPOTS - 1) || resident != NOBODY && !live.has(resident)) {
            return tell(BEYOND);
        }
        live.spots[spot] = resident;
        return 1;
    }

    public int as(int spot, int kind) {
        if (!within(spot, 0, SPOTS - 1) || !within(kind, 0, KINDS - 1)) {
            return tell(BEYOND);
        }
        int held = live.spots[spot];
        if (!live.has(held)) {
            return tell(MISSING);
        }
        if (!isUnder(live.residents[held].kind, kind)) {
            return tell(KIND);
        }
        return held;
    }

    public int sheet(int s, int bits, int n) {
        boolean bitsFit = bits == 0 || bits == 8 || bits == 16 || bits == 32;
        if (!within(s, 0, SHEETS - 1) || !bitsFit) {
            return tell(BEYOND);
        }
        if (n < 0) {
            return tell(SIZE);
        }
        if (n > SHEET_MOST) {
            return tell(BEYOND);
        }
        sheets[s].renew(bits, n);
        return sheets[s].size;
    }

    public int write(int s, int i, int v) {
        int lack = lackOf(s);
        if (lack != FINE) {
            return tell(lack);
        }
        if (!within(i, 0, sheets[s].size - 1)) {
            return tell(BEYOND);
        }
        sheets[s].numbers[i] = sheets[s].cut(v);
        return 1;
    }

    public int copy(int s, int from, int t, int to, int n) {
        if (!within(s, 0, SHEETS - 1) || !within(t, 0, SHEETS - 1)) {
            return tell(BEYOND);
        }
        Sheet source = sheets[s];
        Sheet target = sheets[t];
        if (source.isMissing() || target.isMissing()) {
            return tell(MISSING);
        }
        if (source.bits != target.bits) {
            return tell(KIND);
        }
        if (!source.hasRun(from, n) || !target.hasRun(to, n)) {
            return tell(BEYOND);
        }
        System.arraycopy(source.numbers, from, target.numbers, to, n);
        return n;
    }

    public int load(int s) {
        int lack = lackOf(s);
        if (lack != FINE) {
            return tell(lack);
        }
        Sheet sheet = sheets[s];
        int came = 0;
        while (came < PLACES && came < sheet.size && within(sheet.numbers[came], 0, SETS - 1)) {
            live.list[came] = sheet.numbers[came];
            came++;
        }
        return came;
    }

    public int judge(int s) {
        int lack = lackOf(s);
        if (lack != FINE) {
            return tell(lack);
        }
        Sheet sheet = sheets[s];
        for (int i = 0; i < sheet.size; i++) {
            if (!live.has(i) || live.residents[i].mood != sheet.numbers[i]) {
                return 1 + i;
            }
        }
        return 0;
    }

    // ---- images

    public int image() {
        kept.takeAll(live);
        keeps = true;
        return 1;
    }

    public int undo() {
        if (!keeps) {
            return tell(NONE);
        }
        live.takeAll(kept);
        return live.sunday;
    }

    public int tear() {
        int had = keeps ? 1 : 0;
        keeps = false;
        return had;
    }

    public int count(int what) {
        switch (what) {
            case 0:
                return live.sunday;
            case 1:
                return live.size;
            case 2:
                return live.moods();
            case 3:
                return live.visitsHad();
            case 4:
                return Integer.bitCount(live.wellOnes());
            case 5:
                return tape.length;
            case 6:
                return live.z;
            case 7:
                return live.heldSpots();
            default:
                return tell(BEYOND);
        }
    }

    public int status(int which) {
        if (!within(which, -1, FINDINGS - 1)) {
            return tell(BEYOND);
        }
        if (which >= 0) {
            return found[which];
        }
        int all = 0;
        for (int i = 0; i < FINDINGS; i++) {
            all += found[i];
        }
        return all;
    }

    // ---- what the calls share

    private int tell(int finding) {
        int place = BEYOND - finding;
        if (within(place, 0, FINDINGS - 1)) {
            found[place]++;
        }
        return finding;
    }

    private int lackOf(int s) {
        if (!within(s, 0, SHEETS - 1)) {
            return BEYOND;
        }
        return sheets[s].isMissing() ? MISSING : FINE;
    }

    private int lackFor(int s, int resident) {
        int lack = lackOf(s);
        if (lack != FINE) {
            return lack;
        }
        return live.has(resident) ? FINE : BEYOND;
    }

    private void beginTrial() {
        trial.takeAll(live);
    }

    private void tryWith(int what, int v, int n) {
        beginTrial();
        if (settingFits(what, v)) {
            trial.settings[what] = v;
        }
        trial.pass(n);
    }

    /** The first of all choices with which the mood of a resident is most behind n Sundays. */
    private int bestChoice(int question, int choices, int resident, int n) {
        if (!live.has(resident) || !within(n, 0, PLAN_MOST)) {
            return tell(BEYOND);
        }
        int best = 0;
        int most = -1;
        for (int choice = 0; choice < choices; choice++) {
            beginTrial();
            suppose(question, choice, resident);
            trial.pass(n);
            int reached = trial.residents[resident].mood;
            if (reached > most) {
                most = reached;
                best = choice;
            }
        }
        return best;
    }

    private void suppose(int question, int choice, int resident) {
        switch (question) {
            case ON_PLACE:
                trial.list[choice] |= 1 << resident;
                break;
            case AS_KIND:
                trial.residents[resident].kind = choice;
                break;
            default:
                trial.residents[resident].friend = friendOfChoice(choice, resident);
                break;
        }
    }

    /** All others by their numbers; behind them nobody, which comes last. */
    private int friendOfChoice(int choice, int resident) {
        int other = choice < resident ? choice : choice + 1;
        return other < live.size ? other : NOBODY;
    }

    private int firstSunday(int resident, int goal, int v) {
        beginTrial();
        for (int k = 0; k <= SEARCH_MOST; k++) {
            if (trial.residents[resident].reaches(goal, v)) {
                return k;
            }
            trial.passSunday();
        }
        return tell(NONE);
    }

    private boolean moodFits(Sheet sheet, int resident, int start) {
        beginTrial();
        trial.residents[resident].mood = start;
        return goesAsTold(sheet, trial.residents[resident], true);
    }

    private boolean kindFits(Sheet sheet, int resident, int kind) {
        beginTrial();
        trial.residents[resident].kind = kind;
        return goesAsTold(sheet, trial.residents[resident], false);
    }

    private boolean goesAsTold(Sheet sheet, Resident one, boolean asWell) {
        for (int k = 0; k < sheet.size; k++) {
            if (k > 0) {
                trial.passSunday();
            }
            int shown = asWell ? one.wellSign() : one.mood;
            if (sheet.numbers[k] != ANY && sheet.numbers[k] != shown) {
                return false;
            }
        }
        return true;
    }

    private static boolean within(int v, int least, int most) {
        return v >= least && v <= most;
    }

    private static boolean isIn(int set, int number) {
        return number >= 0 && (set >> number & 1) == 1;
    }

    private static int leastSetting(int what) {
        return what == LONG ? 1 : 0;
    }

    private static int mostSetting(int what) {
        switch (what) {
            case VOLUNTEERS:
                return 8;
            case LONG:
                return LONG_MOST;
            default:
                return 20;
        }
    }

    private static boolean settingFits(int what, int v) {
        return within(what, 0, SETTINGS - 1) && within(v, leastSetting(what), mostSetting(what));
    }

    private static int kindAbove(int kind) {
        switch (kind) {
            case LIVELY:
            case SLEEPER:
            case WATCHER:
                return PLAIN;
            case VAGUE:
                return SLEEPER;
            case DREAMER:
                return VAGUE;
            case GRANNY:
                return LIVELY;
            default:
                return NOBODY;
        }
    }

    private static boolean isUnder(int kind, int above) {
        int at = kind;
        for (int step = 0; step < KINDS && at != NOBODY; step++) {
            if (at == above) {
                return true;
            }
            at = kindAbove(at);
        }
        return false;
    }

    private static long power(int base, int n) {
        long product = 1;
        for (int k = 0; k < n; k++) {
            product *= base;
        }
        return product;
    }

    private static final class Resident {
        int kind;
        int mood;
        int friend;
        int waits;
        int came;

        void begin(int asKind) {
            kind = asKind;
            mood = 50;
            friend = NOBODY;
            waits = 0;
            came = 0;
        }

        void take(Resident other) {
            kind = other.kind;
            mood = other.mood;
            friend = other.friend;
            waits = other.waits;
            came = other.came;
        }

        int fact(int what) {
            switch (what) {
                case OF_KIND:
                    return kind;
                case MOOD:
                    return mood;
                case FRIEND:
                    return friend;
                case WAITS:
                    return waits;
                default:
                    return came;
            }
        }

        void become(int what, int v) {
            switch (what) {
                case OF_KIND:
                    kind = v;
                    break;
                case MOOD:
                    mood = v;
                    break;
                case FRIEND:
                    friend = v;
                    break;
                case WAITS:
                    waits = v;
                    break;
                default:
                    came = v;
                    break;
            }
        }

        boolean isWell() {
            return mood >= WELL_FROM;
        }

        int wellSign() {
            return isWell() ? 1 : 0;
        }

        boolean reaches(int goal, int v) {
            switch (goal) {
                case BE_GLAD:
                    return mood >= v;
                case BE_SAD:
                    return mood <= v;
                default:
                    return came >= v;
            }
        }

        int seats() {
            int plain = 2;
            switch (kind) {
                case LIVELY:
                    return plain + 1;
                case GRANNY:
                    return plain + 1 + 1;
                case SLEEPER:
                case VAGUE:
                case DREAMER:
                    return 1;
                default:
                    return plain;
            }
        }

        int gains(int length) {
            int plain = Math.min(2 * length, 12);
            switch (kind) {
                case LIVELY:
                case GRANNY:
                    return plain + length;
                case SLEEPER:
                    return plain / 2;
                case VAGUE:
                case DREAMER:
                    return plain / 2 + 5;
                case WATCHER:
                    return length > 6 ? plain - 2 : plain;
                default:
                    return plain;
            }
        }

        int loses(int visitedOnes) {
            int plain = 3;
            switch (kind) {
                case LIVELY:
                case GRANNY:
                    return plain - 1;
                case SLEEPER:
                    return plain - 2;
                case VAGUE:
                    return waits >= 4 ? plain - 2 + 1 : plain - 2;
                case DREAMER:
                    return 0;
                case WATCHER:
                    return plain + visitedOnes;
                default:
                    return plain;
            }
        }

        boolean shares() {
            switch (kind) {
                case GRANNY:
                case VAGUE:
                    return true;
                case DREAMER:
                    return false;
                default:
                    return mood >= 70;
            }
        }

        void feel(int more) {
            mood = Math.max(0, Math.min(MOOD_MOST, mood + more));
        }

        void beVisited(int length, boolean withCake) {
            feel(gains(length) + (withCake ? 1 : 0));
            waits = 0;
            came = Math.min(TALLY_MOST, came + 1);
        }

        void beSharing(int length) {
            feel(gains(length) / 2);
            waitOn();
        }

        void beHelped() {
            feel(4);
            waits = 0;
        }

        void beAlone(int visitedOnes) {
            feel(-loses(visitedOnes));
            waitOn();
        }

        void waitOn() {
            waits = Math.min(TALLY_MOST, waits + 1);
        }
    }

    /** All that an image keeps: the home, who lives there, SUNDAY, z and the SPOTS. */
    private static final class Home {
        final int[] settings;
        final int[] list;
        final Resident[] residents;
        int size;
        int sunday;
        int z;
        final int[] spots;
        /** The next three hold what decide() found latest, as sets. */
        int visited;
        int sharing;
        int helped;

        Home() {
            settings = new int[SETTINGS];
            settings[CHAIRS] = 6;
            settings[CAKE] = 11;
            settings[VOLUNTEERS] = 1;
            settings[LONG] = 4;
            list = new int[PLACES];
            residents = new Resident[RESIDENTS];
            for (int r = 0; r < RESIDENTS; r++) {
                residents[r] = new Resident();
            }
            z = 1;
            spots = new int[SPOTS];
            Arrays.fill(spots, NOBODY);
        }

        void takeAll(Home other) {
            System.arraycopy(other.settings, 0, settings, 0, SETTINGS);
            System.arraycopy(other.list, 0, list, 0, PLACES);
            System.arraycopy(other.spots, 0, spots, 0, SPOTS);
            size = other.size;
            for (int r = 0; r < size; r++) {
                residents[r].take(other.residents[r]);
            }
            sunday = other.sunday;
            z = other.z;
        }

        boolean has(int resident) {
            return within(resident, 0, size - 1);
        }

        int welcome(int kind) {
            if (size >= RESIDENTS) {
                return NOBODY;
            }
            int number = size;
            residents[number].begin(kind);
            size++;
            return number;
        }

        boolean factFits(int resident, int what, int v) {
            switch (what) {
                case OF_KIND:
                    return within(v, 0, KINDS - 1);
                case MOOD:
                    return within(v, 0, MOOD_MOST);
                case FRIEND:
                    return v == NOBODY || has(v) && v != resident;
                case WAITS:
                case CAME:
                    return within(v, 0, TALLY_MOST);
                default:
                    return false;
            }
        }

        int draw() {
            z = z * 1103515245 + 12345;
            return z >>> 8;
        }

        void pass(int n) {
            for (int k = 0; k < n; k++) {
                passSunday();
            }
        }

        void passSunday() {
            decide();
            int length = settings[LONG];
            int cakeLeft = settings[CAKE];
            int visitedOnes = Integer.bitCount(visited);
            for (int r = 0; r < size; r++) {
                Resident one = residents[r];
                if (isIn(visited, r)) {
                    one.beVisited(length, cakeLeft > 0);
                    cakeLeft--;
                } else if (isIn(sharing, r)) {
                    one.beSharing(length);
                } else if (isIn(helped, r)) {
                    one.beHelped();
                } else {
                    one.beAlone(visitedOnes);
                }
            }
            sunday = Math.min(SUNDAY_MOST, sunday + 1);
        }

        /** Ahead of any change of moods, since all counts as each was before. */
        void decide() {
            visited = seated(list[sunday % PLACES]);
            sharing = sharers();
            helped = volunteersTo(visited | sharing);
        }

        int seated(int wanted) {
            int chairsLeft = settings[CHAIRS];
            int seatedOnes = 0;
            for (int r = 0; r < size; r++) {
                int seats = residents[r].seats();
                if (isIn(wanted, r) && seats <= chairsLeft) {
                    chairsLeft -= seats;
                    seatedOnes |= 1 << r;
                }
            }
            return seatedOnes;
        }

        int sharers() {
            int sharers = 0;
            for (int r = 0; r < size; r++) {
                Resident one = residents[r];
                if (!isIn(visited, r) && isIn(visited, one.friend) && one.shares()) {
                    sharers |= 1 << r;
                }
            }
            return sharers;
        }

        int volunteersTo(int provided) {
            int sent = 0;
            for (int k = 0; k < settings[VOLUNTEERS]; k++) {
                int next = longestWaiting(provided | sent);
                if (next == NOBODY) {
                    break;
                }
                sent |= 1 << next;
            }
            return sent;
        }

        int longestWaiting(int leftOut) {
            int longest = NOBODY;
            int most = -1;
            for (int r = 0; r < size; r++) {
                if ((leftOut >> r & 1) == 0 && residents[r].waits > most) {
                    most = residents[r].waits;
                    longest = r;
                }
            }
            return longest;
        }

        void keepAway(int absent) {
            for (int i = 0; i < PLACES; i++) {
                list[i] &= ~absent;
            }
        }

        int moods() {
            int together = 0;
            for (int r = 0; r < size; r++) {
                together += residents[r].mood;
            }
            return together;
        }

        int visitsHad() {
            int together = 0;
            for (int r = 0; r < size; r++) {
                together += residents[r].came;
            }
            return together;
        }

        int lowestMood() {
            int lowest = MOOD_MOST;
            for (int r = 0; r < size; r++) {
                lowest = Math.min(lowest, residents[r].mood);
            }
            return lowest;
        }

        int wellOnes() {
            int wellSet = 0;
            for (int r = 0; r < size; r++) {
                if (residents[r].isWell()) {
                    wellSet |= 1 << r;
                }
            }
            return wellSet;
        }

        int heldSpots() {
            int held = 0;
            for (int i = 0; i < SPOTS; i++) {
                if (spots[i] != NOBODY) {
                    held++;
                }
            }
            return held;
        }
    }

    private static final class Sheet {
        int bits;
        int size;
        final int[] numbers;

        Sheet() {
            numbers = new int[SHEET_MOST];
        }

        boolean isMissing() {
            return bits == 0;
        }

        void renew(int newBits, int n) {
            bits = newBits;
            size = newBits == 0 ? 0 : n;
            Arrays.fill(numbers, 0);
        }

        int cut(int v) {
            switch (bits) {
                case 8:
                    return (byte) v;
                case 16:
                    return (short) v;
                default:
                    return v;
            }
        }

        /** By a difference, because from and n together may be more than an int holds. */
        boolean hasRun(int from, int n) {
            return n >= 0 && n <= size && from >= 0 && from <= size - n;
        }
    }

    /** THE TAPE, and how a TEXT is read from it: one TOKEN is always looked at ahead. */
    private static final class Tape {
        static final int END = 0;
        static final int WORD = 1;
        static final int NUMBER = 2;
        static final int SIGN = 3;
        static final int STRANGE = 4;

        final int[] bytes;
        int length;
        int token;
        /** Where the TOKEN begins: the FAULT, if it can't stand there. */
        int begin;
        int end;
        int value;

        Tape() {
            bytes = new int[TAPE_MOST];
        }

        void append(int piece) {
            if (length < TAPE_MOST) {
                bytes[length] = piece;
                length++;
            }
        }

        int readInto(Home into) {
            end = 0;
            step();
            for (int items = 1; items <= TAPE_MOST; items++) {
                if (!readItem(into)) {
                    return -1 - begin;
                }
                if (token == END) {
                    return items;
                }
                if (token != SIGN) {
                    return -1 - begin;
                }
                step();
            }
            return -1 - begin;
        }

        boolean readItem(Home into) {
            for (int kind = 0; kind < KINDS; kind++) {
                if (isWord(kindWord(kind))) {
                    return readResident(into, kind);
                }
            }
            for (int what = 0; what < SETTINGS; what++) {
                if (isWord(settingWord(what))) {
                    return readSetting(into, what);
                }
            }
            return isWord("visits") && readVisits(into);
        }

        boolean readResident(Home into, int kind) {
            int number = into.welcome(kind);
            if (number == NOBODY) {
                return false;
            }
            Resident one = into.residents[number];
            step();
            return readFact(one, "mood", MOOD, MOOD_MOST)
                && readFact(one, "friend", FRIEND, number - 1)
                && readFact(one, "waits", WAITS, TALLY_MOST);
        }

        boolean readFact(Resident one, String word, int what, int most) {
            if (!isWord(word)) {
                return true;
            }
            step();
            if (!isNumber(0, most)) {
                return false;
            }
            one.become(what, value);
            step();
            return true;
        }

        boolean readSetting(Home into, int what) {
            step();
            if (!isNumber(leastSetting(what), mostSetting(what))) {
                return false;
            }
            into.settings[what] = value;
            step();
            return true;
        }

        boolean readVisits(Home into) {
            step();
            if (!isNumber(0, PLACES - 1)) {
                return false;
            }
            int place = value;
            step();
            if (!isNumber(0, SETS - 1)) {
                return false;
            }
            into.list[place] = value;
            step();
            return true;
        }

        void step() {
            begin = end;
            while (begin < length && bytes[begin] == ' ') {
                begin++;
            }
            token = begin < length ? tokenOf(bytes[begin]) : END;
            end = token == SIGN ? begin + 1 : begin;
            value = 0;
            while (token != SIGN && end < length && tokenOf(bytes[end]) == token) {
                if (token == NUMBER) {
                    // Held one above the most, so that a long row of digits can't wrap around.
                    value = Math.min(TALLY_MOST + 1, value * 10 + bytes[end] - '0');
                }
                end++;
            }
        }

        boolean isWord(String word) {
            if (token != WORD || end - begin != word.length()) {
                return false;
            }
            for (int i = 0; i < word.length(); i++) {
                if (bytes[begin + i] != word.charAt(i)) {
                    return false;
                }
            }
            return true;
        }

        boolean isNumber(int least, int most) {
            return token == NUMBER && within(value, least, most);
        }

        static int tokenOf(int piece) {
            if (piece >= 'a' && piece <= 'z') {
                return WORD;
            }
            if (piece >= '0' && piece <= '9') {
                return NUMBER;
            }
            return piece == ';' ? SIGN : STRANGE;
        }

        static String kindWord(int kind) {
            switch (kind) {
                case LIVELY:
                    return "lively";
                case SLEEPER:
                    return "sleeper";
                case VAGUE:
                    return "vague";
                case DREAMER:
                    return "dreamer";
                case WATCHER:
                    return "watcher";
                case GRANNY:
                    return "granny";
                default:
                    return "resident";
            }
        }

        static String settingWord(int what) {
            switch (what) {
                case CHAIRS:
                    return "chairs";
                case CAKE:
                    return "cake";
                case VOLUNTEERS:
                    return "volunteers";
                default:
                    return "long";
            }
        }
    }
}
