/**
 * A farm of fields in a row with gates between them, and walkers who leave each gate as they
 * would be left. The document numbers what each public method promises.
 */
public final class GateManners {
    private static final int LOW = -1000001;
    private static final int BEYOND = 0;
    private static final int FULL = 1;
    private static final int KIND = 2;
    private static final int NONE = 3;
    private static final int STATE = 4;
    private static final int MISSING = 5;
    private static final int SIZE = 6;
    private static final int FINDINGS = 7;
    private static final int FINE = -1;

    private static final int FIELDS = 9;
    private static final int GATES = 8;
    private static final int SPOTS = 10;
    private static final int SHEETS = 4;
    private static final int MOST_WALKERS = 8;
    private static final int MOST_BEASTS = 9999;
    private static final int MOST_WIND = 9;
    private static final int MOST_PASSED = 9999;
    private static final int MOST_MOOD = 9;
    private static final int MOST_NUMBERS = 40;
    private static final int MOST_BYTES = 120;
    private static final int LAST_HOUR = 99999;
    private static final int FAR_HOUR = 100;

    private static final int SHUT = 0;
    private static final int AJAR = 1;
    private static final int OPEN = 2;
    private static final int PROPPED = 3;
    private static final int MANNERS = 4;

    private static final int WALKER = 0;
    private static final int POSTMAN = 1;
    private static final int DOG = 2;
    private static final int CHILD = 3;
    private static final int STRANGER = 4;
    private static final int MEAN = 5;
    private static final int DAUGHTER = 6;
    private static final int KINDS = 7;
    private static final int[] KIND_ABOVE = {-1, WALKER, WALKER, DOG, CHILD, WALKER, POSTMAN};

    private static final int ITS_KIND = 0;
    private static final int ITS_FIELD = 1;
    private static final int ITS_WAY = 2;
    private static final int ITS_MOOD = 3;
    private static final int ITS_PASSED = 4;
    private static final int PARTS = 5;
    private static final int ITS_GOES = 5;
    private static final int[] MOST_OF_PART = {KINDS - 1, FIELDS - 1, 1, MOST_MOOD, MOST_PASSED};

    private static final int ON = 0;
    private static final int FIRST_MOOD = 3;
    private static final int EVERYBODY = (1 << MOST_WALKERS) - 1;
    private static final int NOTHING = -1;
    private static final int ANY = -1;

    private final Farm farm;
    // What might be is tried on this one, so that nothing has to be made anew by a call.
    private final Farm trial;
    private final Farm kept;
    private boolean isKept;
    private final Tape tape;
    private final Sheet[] sheets;
    private final int[] found;

    public GateManners() {
        farm = new Farm();
        trial = new Farm();
        kept = new Farm();
        isKept = false;
        tape = new Tape();
        sheets = new Sheet[SHEETS];
        for (int s = 0; s < SHEETS; s++) {
            sheets[s] = new Sheet();
        }
        found = new int[FINDINGS];
    }

    // ---- fields, gates, wind, walkers

    public int beasts(int field, int v) {
        if (!isField(field) || !isIn(v, 0, MOST_BEASTS)) {
            return finding(BEYOND);
        }
        int was = farm.beastsIn[field];
        farm.beastsIn[field] = v;
        return was;
    }

    public int field(int field, int what) {
        if (!isField(field) || !isIn(what, 0, 1)) {
            return finding(BEYOND);
        }
        return what == 0 ? farm.beastsIn[field] : farm.walkersIn(field);
    }

    public int gate(int gate, int v) {
        if (!isGate(gate) || !isManner(v)) {
            return finding(BEYOND);
        }
        int was = farm.standing[gate];
        farm.standing[gate] = v;
        return was;
    }

    public int stands(int gate) {
        if (!isGate(gate)) {
            return finding(BEYOND);
        }
        return farm.standing[gate];
    }

    public int wind(int v) {
        if (!isIn(v, 0, MOST_WIND)) {
            return finding(BEYOND);
        }
        int was = farm.windNow;
        farm.windNow = v;
        return was;
    }

    public int walker(int kind, int field) {
        if (!isKind(kind) || !isField(field)) {
            return finding(BEYOND);
        }
        if (farm.walkers >= MOST_WALKERS) {
            return finding(FULL);
        }
        return farm.addWalker(kind, field);
    }

    public int of(int walker, int what) {
        if (!isWalker(walker) || !isIn(what, 0, ITS_GOES)) {
            return finding(BEYOND);
        }
        return what == ITS_GOES ? farm.goesOf(walker) : farm.parts[what][walker];
    }

    public int change(int walker, int what, int v) {
        if (!isWalker(walker) || !isIn(what, 0, PARTS - 1) || !isIn(v, 0, MOST_OF_PART[what])) {
            return finding(BEYOND);
        }
        int was = farm.parts[what][walker];
        farm.parts[what][walker] = v;
        return was;
    }

    public int leaves(int walker, int s, int what) {
        if (!isWalker(walker) || !isManner(s) || !isIn(what, 0, 1)) {
            return finding(BEYOND);
        }
        return what == 0 ? farm.leftBy(walker, s) : farm.feltBy(walker, s);
    }

    // ---- hours

    public int go(int n) {
        if (!isIn(n, 1, 60)) {
            return finding(BEYOND);
        }
        if (farm.hour + n > LAST_HOUR) {
            return finding(STATE);
        }
        farm.passHours(n, EVERYBODY);
        return farm.standingByFour();
    }

    public int now(int what) {
        switch (what) {
            case 0:
                return farm.hour;
            case 1:
                return farm.allBeasts();
            case 2:
                return farm.notShut();
            case 3:
                return farm.standingByFour();
            case 4:
                return farm.allPassed();
            case 5:
                return farm.fullestField();
            default:
                return finding(BEYOND);
        }
    }

    // ---- what will be (nothing changes)

    public int ahead(int field, int n) {
        if (!isField(field) || !isIn(n, 0, FAR_HOUR)) {
            return finding(BEYOND);
        }
        tryHours(n);
        return trial.beastsIn[field];
    }

    public int stand(int gate, int n) {
        if (!isGate(gate) || !isIn(n, 0, FAR_HOUR)) {
            return finding(BEYOND);
        }
        tryHours(n);
        return trial.standing[gate];
    }

    public int where(int walker, int what, int n) {
        if (!isWalker(walker) || (what != ITS_FIELD && what != ITS_MOOD) || !isIn(n, 0, FAR_HOUR)) {
            return finding(BEYOND);
        }
        tryHours(n);
        return trial.parts[what][walker];
    }

    public int corn(int field, int v) {
        if (!isField(field) || !isIn(v, 0, MOST_BEASTS)) {
            return finding(BEYOND);
        }
        trial.become(farm);
        for (int n = 0; n <= FAR_HOUR; n++) {
            if (trial.beastsIn[field] >= v) {
                return n;
            }
            trial.passHours(1, EVERYBODY);
        }
        return finding(NONE);
    }

    public int when(int gate, int s) {
        if (!isGate(gate) || !isManner(s)) {
            return finding(BEYOND);
        }
        trial.become(farm);
        for (int n = 0; n <= FAR_HOUR; n++) {
            if (trial.standing[gate] == s) {
                return n;
            }
            trial.passHours(1, EVERYBODY);
        }
        return finding(NONE);
    }

    public int meet(int a, int b) {
        if (!isWalker(a) || !isWalker(b) || a == b) {
            return finding(BEYOND);
        }
        trial.become(farm);
        for (int n = 0; n <= FAR_HOUR; n++) {
            if (trial.parts[ITS_FIELD][a] == trial.parts[ITS_FIELD][b]) {
                return n;
            }
            trial.passHours(1, EVERYBODY);
        }
        return finding(NONE);
    }

    // ---- who, where, as what

    public int start(int walker, int gate, int s, int n) {
        if (!isWish(walker, gate, s, n)) {
            return finding(BEYOND);
        }
        int set = valuesFor(walker, ITS_FIELD, gate, s, n);
        return set == 0 ? finding(NONE) : Integer.numberOfTrailingZeros(set);
    }

    public int kindsFor(int walker, int gate, int s, int n) {
        if (!isWish(walker, gate, s, n)) {
            return finding(BEYOND);
        }
        return valuesFor(walker, ITS_KIND, gate, s, n);
    }

    public int moods(int walker, int gate, int s, int n) {
        if (!isWish(walker, gate, s, n)) {
            return finding(BEYOND);
        }
        return valuesFor(walker, ITS_MOOD, gate, s, n);
    }

    public int windFor(int field, int v, int n) {
        if (!isField(field) || !isIn(v, 0, MOST_BEASTS) || !isIn(n, 0, 40)) {
            return finding(BEYOND);
        }
        for (int wind = 0; wind <= MOST_WIND; wind++) {
            trial.become(farm);
            trial.windNow = wind;
            trial.passHours(n, EVERYBODY);
            if (trial.beastsIn[field] <= v) {
                return wind;
            }
        }
        return finding(NONE);
    }

    public int home(int field, int v, int n) {
        if (!isField(field) || !isIn(v, 0, MOST_BEASTS) || !isIn(n, 0, 20)) {
            return finding(BEYOND);
        }
        for (int many = 0; many <= farm.walkers; many++) {
            int set = leastHome(many, field, v, n);
            if (set >= 0) {
                return set;
            }
        }
        return finding(NONE);
    }

    public int shut(int field, int n) {
        if (!isField(field) || !isIn(n, 0, 40)) {
            return finding(BEYOND);
        }
        int best = 0;
        int fewest = MOST_BEASTS + 1;
        for (int gate = 0; gate < GATES; gate++) {
            trial.become(farm);
            trial.standing[gate] = SHUT;
            trial.passHours(n, EVERYBODY);
            if (trial.beastsIn[field] < fewest) {
                fewest = trial.beastsIn[field];
                best = gate;
            }
        }
        return best;
    }

    // ---- who came by

    public int who(int s) {
        int wrong = wrongSheet(s);
        if (wrong != FINE) {
            return finding(wrong);
        }
        int set = 0;
        for (int walker = 0; walker < farm.walkers; walker++) {
            trial.become(farm);
            trial.passHours(1, 1 << walker);
            if (trial.standsAsTold(sheets[s])) {
                set |= 1 << walker;
            }
        }
        return set;
    }

    public int fits(int s, int walker, int n) {
        int wrong = wrongSheet(s);
        if (wrong != FINE) {
            return finding(wrong);
        }
        if (!isWalker(walker) || !isIn(n, 0, 20)) {
            return finding(BEYOND);
        }
        int set = 0;
        for (int field = 0; field < FIELDS; field++) {
            trial.become(farm);
            trial.parts[ITS_FIELD][walker] = field;
            trial.passHours(n, 1 << walker);
            if (trial.standsAsTold(sheets[s])) {
                set |= 1 << field;
            }
        }
        return set;
    }

    public int kinds(int s, int walker) {
        int wrong = wrongSheet(s);
        if (wrong != FINE) {
            return finding(wrong);
        }
        if (!isWalker(walker)) {
            return finding(BEYOND);
        }
        int set = 0;
        for (int kind = 0; kind < KINDS; kind++) {
            trial.become(farm);
            trial.parts[ITS_KIND][walker] = kind;
            if (feelsAsTold(sheets[s], walker)) {
                set |= 1 << kind;
            }
        }
        return set;
    }

    // ---- windy hours

    public int gales(int n) {
        if (!isIn(n, 1, 20)) {
            return finding(BEYOND);
        }
        if (farm.hour + n > LAST_HOUR) {
            return finding(STATE);
        }
        for (int i = 0; i < n; i++) {
            farm.windNow = farm.draw() % (MOST_WIND + 1);
            farm.standing[farm.draw() % GATES] = OPEN;
            farm.passHours(1, EVERYBODY);
        }
        return farm.notShut();
    }

    public long odds(int n, int what) {
        if (!isIn(n, 0, 20) || !isIn(what, 0, 1)) {
            return finding(BEYOND);
        }
        int above = Integer.bitCount(farm.notShut());
        int below = GATES;
        // Powers of a fraction in lowest terms are in lowest terms too; 8 has no divisor but 2.
        for (int i = 0; i < 3 && above % 2 == 0 && below > 1; i++) {
            above /= 2;
            below /= 2;
        }
        return power(what == 0 ? above : below, n);
    }

    public int seed(int v) {
        int was = farm.z;
        farm.z = v;
        return was;
    }

    // ---- texts

    public int feed(int bytes, int n) {
        if (!isIn(n, 1, 4)) {
            return finding(BEYOND);
        }
        if (tape.size + n > MOST_BYTES) {
            return finding(FULL);
        }
        for (int i = n - 1; i >= 0; i--) {
            tape.put(bytes >>> (8 * i));
        }
        return tape.size;
    }

    public int wipe() {
        int had = tape.size;
        tape.size = 0;
        return had;
    }

    public int text() {
        trial.become(farm);
        int answer = tape.tellTo(trial);
        tape.size = 0;
        if (answer >= 0) {
            farm.become(trial);
        }
        return answer;
    }

    // ---- spots, sheets

    public int hold(int spot, int walker) {
        if (!isSpot(spot) || (walker != NOTHING && !isWalker(walker))) {
            return finding(BEYOND);
        }
        farm.heldAt[spot] = walker;
        return 1;
    }

    public int as(int spot, int kind) {
        if (!isSpot(spot) || !isKind(kind)) {
            return finding(BEYOND);
        }
        int walker = farm.heldAt[spot];
        if (!isWalker(walker)) {
            return finding(MISSING);
        }
        if (!isUnder(farm.parts[ITS_KIND][walker], kind)) {
            return finding(KIND);
        }
        return walker;
    }

    public int sheet(int s, int bits, int n) {
        if (!isSheet(s) || (bits != 0 && bits != 8 && bits != 16 && bits != 32)) {
            return finding(BEYOND);
        }
        if (n < 0) {
            return finding(SIZE);
        }
        if (n > MOST_NUMBERS) {
            return finding(BEYOND);
        }
        sheets[s].clear(bits, bits == 0 ? 0 : n);
        return sheets[s].size;
    }

    public int write(int s, int i, int v) {
        int wrong = wrongSheet(s);
        if (wrong != FINE) {
            return finding(wrong);
        }
        if (!isIn(i, 0, sheets[s].size - 1)) {
            return finding(BEYOND);
        }
        sheets[s].put(i, v);
        return 1;
    }

    public int copy(int s, int from, int t, int to, int n) {
        if (!isSheet(s) || !isSheet(t)) {
            return finding(BEYOND);
        }
        if (sheets[s].isMissing() || sheets[t].isMissing()) {
            return finding(MISSING);
        }
        if (sheets[s].bits != sheets[t].bits) {
            return finding(KIND);
        }
        if (!sheets[s].hasRow(from, n) || !sheets[t].hasRow(to, n)) {
            return finding(BEYOND);
        }
        System.arraycopy(sheets[s].numbers, from, sheets[t].numbers, to, n);
        return n;
    }

    public int load(int s) {
        int wrong = wrongSheet(s);
        if (wrong != FINE) {
            return finding(wrong);
        }
        int most = Math.min(sheets[s].size, FIELDS);
        for (int i = 0; i < most; i++) {
            int number = sheets[s].numbers[i];
            if (!isIn(number, 0, MOST_BEASTS)) {
                return i;
            }
            farm.beastsIn[i] = number;
        }
        return most;
    }

    public int judge(int s) {
        int wrong = wrongSheet(s);
        if (wrong != FINE) {
            return finding(wrong);
        }
        for (int i = 0; i < sheets[s].size; i++) {
            if (i >= GATES || sheets[s].numbers[i] != farm.standing[i]) {
                return 1 + i;
            }
        }
        return 0;
    }

    // ---- images

    public int image() {
        kept.become(farm);
        isKept = true;
        return 1;
    }

    public int undo() {
        if (!isKept) {
            return finding(NONE);
        }
        farm.become(kept);
        return farm.hour;
    }

    public int tear() {
        int was = isKept ? 1 : 0;
        isKept = false;
        return was;
    }

    public int count(int what) {
        switch (what) {
            case 0:
                return farm.hour;
            case 1:
                return farm.walkers;
            case 2:
                return Integer.bitCount(farm.notShut());
            case 3:
                return farm.allBeasts();
            case 4:
                return farm.allPassed();
            case 5:
                return tape.size;
            case 6:
                return farm.z;
            case 7:
                return farm.spotsInUse();
            default:
                return finding(BEYOND);
        }
    }

    public int status(int which) {
        if (!isIn(which, -1, FINDINGS - 1)) {
            return finding(BEYOND);
        }
        return which < 0 ? allFound() : found[which];
    }

    // ---- what the calls have in common

    private int finding(int which) {
        found[which]++;
        return LOW - which;
    }

    private int allFound() {
        int sum = 0;
        for (int which = 0; which < FINDINGS; which++) {
            sum += found[which];
        }
        return sum;
    }

    private static boolean isIn(int v, int least, int most) {
        return v >= least && v <= most;
    }

    private static boolean isField(int field) {
        return isIn(field, 0, FIELDS - 1);
    }

    private static boolean isGate(int gate) {
        return isIn(gate, 0, GATES - 1);
    }

    private static boolean isManner(int s) {
        return isIn(s, 0, MANNERS - 1);
    }

    private static boolean isKind(int kind) {
        return isIn(kind, 0, KINDS - 1);
    }

    private static boolean isSpot(int spot) {
        return isIn(spot, 0, SPOTS - 1);
    }

    private static boolean isSheet(int s) {
        return isIn(s, 0, SHEETS - 1);
    }

    private boolean isWalker(int walker) {
        return isIn(walker, 0, farm.walkers - 1);
    }

    private boolean isWish(int walker, int gate, int s, int n) {
        return isWalker(walker) && isGate(gate) && isManner(s) && isIn(n, 0, 40);
    }

    private int wrongSheet(int s) {
        if (!isSheet(s)) {
            return BEYOND;
        }
        return sheets[s].isMissing() ? MISSING : FINE;
    }

    private static boolean isUnder(int kind, int top) {
        int at = kind;
        for (int step = 0; step < KINDS && isKind(at); step++) {
            if (at == top) {
                return true;
            }
            at = KIND_ABOVE[at];
        }
        return false;
    }

    private void tryHours(int n) {
        trial.become(farm);
        trial.passHours(n, EVERYBODY);
    }

    /** Values of one part of a walker, as a set, with which a gate stands s behind n hours. */
    private int valuesFor(int walker, int part, int gate, int s, int n) {
        int set = 0;
        for (int v = 0; v <= MOST_OF_PART[part]; v++) {
            trial.become(farm);
            trial.parts[part][walker] = v;
            trial.passHours(n, EVERYBODY);
            if (trial.standing[gate] == s) {
                set |= 1 << v;
            }
        }
        return set;
    }

    /** The least set of so many walkers that helps if they stay at home; NOTHING if none does. */
    private int leastHome(int many, int field, int v, int n) {
        for (int set = 0; set < 1 << farm.walkers; set++) {
            if (Integer.bitCount(set) == many) {
                trial.become(farm);
                trial.passHours(n, EVERYBODY & ~set);
                if (trial.beastsIn[field] <= v) {
                    return set;
                }
            }
        }
        return NOTHING;
    }

    /** Lets the trial's hours go by while a walker's mood is as the sheet tells, hour by hour. */
    private boolean feelsAsTold(Sheet sheet, int walker) {
        for (int i = 0; i < sheet.size; i++) {
            if (i > 0) {
                trial.passHours(1, EVERYBODY);
            }
            int told = sheet.numbers[i];
            if (told != ANY && told != trial.parts[ITS_MOOD][walker]) {
                return false;
            }
        }
        return true;
    }

    private static long power(int base, int n) {
        long product = 1;
        for (int i = 0; i < n; i++) {
            product *= base;
        }
        return product;
    }

    /** All that an image keeps. */
    private static final class Farm {
        final int[] beastsIn = new int[FIELDS];
        final int[] standing = new int[GATES];
        final int[][] parts = new int[PARTS][MOST_WALKERS];
        final int[] heldAt = new int[SPOTS];
        int walkers = 0;
        int windNow = 0;
        int hour = 0;
        int z = 1;

        Farm() {
            for (int spot = 0; spot < SPOTS; spot++) {
                heldAt[spot] = NOTHING;
            }
        }

        void become(Farm other) {
            System.arraycopy(other.beastsIn, 0, beastsIn, 0, FIELDS);
            System.arraycopy(other.standing, 0, standing, 0, GATES);
            for (int part = 0; part < PARTS; part++) {
                System.arraycopy(other.parts[part], 0, parts[part], 0, MOST_WALKERS);
            }
            System.arraycopy(other.heldAt, 0, heldAt, 0, SPOTS);
            walkers = other.walkers;
            windNow = other.windNow;
            hour = other.hour;
            z = other.z;
        }

        /** The new one's number, or NOTHING if there are too many. */
        int addWalker(int kind, int field) {
            if (walkers >= MOST_WALKERS) {
                return NOTHING;
            }
            int walker = walkers;
            walkers++;
            parts[ITS_KIND][walker] = kind;
            parts[ITS_FIELD][walker] = field;
            parts[ITS_WAY][walker] = ON;
            parts[ITS_MOOD][walker] = FIRST_MOOD;
            parts[ITS_PASSED][walker] = 0;
            return walker;
        }

        int leftBy(int walker, int s) {
            int asWalker = windNow >= 5 ? SHUT : s;
            int asDog = asWalker == AJAR ? OPEN : asWalker;
            int asChild = (asDog + parts[ITS_MOOD][walker]) % MANNERS;
            switch (parts[ITS_KIND][walker]) {
                case POSTMAN:
                    return PROPPED;
                case DAUGHTER:
                    return s == SHUT ? AJAR : PROPPED;
                case DOG:
                    return asDog;
                case CHILD:
                    return asChild;
                case STRANGER:
                    return 3 - asChild;
                case MEAN:
                    return SHUT;
                default:
                    return asWalker;
            }
        }

        int feltBy(int walker, int s) {
            int mood = parts[ITS_MOOD][walker];
            int asPostman = MOST_MOOD;
            int asDog = Math.min(mood + s, MOST_MOOD);
            int asChild = Math.min(asDog + 1, MOST_MOOD);
            switch (parts[ITS_KIND][walker]) {
                case POSTMAN:
                    return asPostman;
                case DAUGHTER:
                    return asPostman - s;
                case DOG:
                    return asDog;
                case CHILD:
                    return asChild;
                case STRANGER:
                    return asChild / 2;
                case MEAN:
                    return Math.max(mood - 1, 0);
                default:
                    return mood;
            }
        }

        int goesOf(int walker) {
            int asDog = parts[ITS_MOOD][walker] >= 5 ? 3 : 1;
            switch (parts[ITS_KIND][walker]) {
                case POSTMAN:
                case DAUGHTER:
                    return 2;
                case DOG:
                    return asDog;
                case CHILD:
                case STRANGER:
                    return asDog - 1;
                default:
                    return 1;
            }
        }

        /** Hours in which only a set of walkers goes, the others stay. */
        void passHours(int n, int going) {
            for (int i = 0; i < n; i++) {
                for (int walker = 0; walker < walkers; walker++) {
                    if ((going >> walker & 1) == 1) {
                        letGo(walker);
                    }
                }
                moveBeasts();
                blowShut();
                hour = Math.min(hour + 1, LAST_HOUR);
            }
        }

        void letGo(int walker) {
            // Asked once, ahead of the first gate: the mood may change on the way.
            int many = goesOf(walker);
            for (int i = 0; i < many; i++) {
                passOrTurn(walker);
            }
        }

        void passOrTurn(int walker) {
            boolean goesOn = parts[ITS_WAY][walker] == ON;
            int gate = goesOn ? parts[ITS_FIELD][walker] : parts[ITS_FIELD][walker] - 1;
            if (gate < 0 || gate >= GATES) {
                parts[ITS_WAY][walker] = 1 - parts[ITS_WAY][walker];
                return;
            }
            int stood = standing[gate];
            standing[gate] = leftBy(walker, stood);
            parts[ITS_MOOD][walker] = feltBy(walker, stood);
            parts[ITS_FIELD][walker] = goesOn ? gate + 1 : gate;
            parts[ITS_PASSED][walker] = Math.min(parts[ITS_PASSED][walker] + 1, MOST_PASSED);
        }

        void moveBeasts() {
            // All gates at once: here and there are as they were ahead of any moving.
            int here = beastsIn[0];
            for (int gate = 0; gate < GATES; gate++) {
                int there = beastsIn[gate + 1];
                int moved = through(standing[gate], here - there);
                beastsIn[gate] -= moved;
                beastsIn[gate + 1] += moved;
                here = there;
            }
        }

        static int through(int stands, int more) {
            if (stands == SHUT) {
                return 0;
            }
            return stands == AJAR ? more / 16 : more / 4;
        }

        void blowShut() {
            for (int gate = 0; gate < GATES; gate++) {
                if (windNow >= 7 && standing[gate] != PROPPED) {
                    standing[gate] = SHUT;
                }
            }
        }

        int draw() {
            z = z * 1103515245 + 12345;
            return z >>> 8;
        }

        /** Gates beyond the last are not asked for. */
        boolean standsAsTold(Sheet sheet) {
            for (int i = 0; i < sheet.size && i < GATES; i++) {
                if (sheet.numbers[i] != ANY && sheet.numbers[i] != standing[i]) {
                    return false;
                }
            }
            return true;
        }

        int walkersIn(int field) {
            int set = 0;
            for (int walker = 0; walker < walkers; walker++) {
                if (parts[ITS_FIELD][walker] == field) {
                    set |= 1 << walker;
                }
            }
            return set;
        }

        int standingByFour() {
            int number = 0;
            for (int gate = GATES - 1; gate >= 0; gate--) {
                number = number * MANNERS + standing[gate];
            }
            return number;
        }

        int notShut() {
            int set = 0;
            for (int gate = 0; gate < GATES; gate++) {
                if (standing[gate] != SHUT) {
                    set |= 1 << gate;
                }
            }
            return set;
        }

        int allBeasts() {
            int sum = 0;
            for (int field = 0; field < FIELDS; field++) {
                sum += beastsIn[field];
            }
            return sum;
        }

        int allPassed() {
            int sum = 0;
            for (int walker = 0; walker < walkers; walker++) {
                sum += parts[ITS_PASSED][walker];
            }
            return sum;
        }

        int fullestField() {
            int best = 0;
            for (int field = 1; field < FIELDS; field++) {
                if (beastsIn[field] > beastsIn[best]) {
                    best = field;
                }
            }
            return best;
        }

        int spotsInUse() {
            int many = 0;
            for (int spot = 0; spot < SPOTS; spot++) {
                if (heldAt[spot] != NOTHING) {
                    many++;
                }
            }
            return many;
        }
    }

    /** A row of numbers of 8, 16 or 32 bits; of 0 bits: it is missing. */
    private static final class Sheet {
        final int[] numbers = new int[MOST_NUMBERS];
        int bits = 0;
        int size = 0;

        boolean isMissing() {
            return bits == 0;
        }

        void clear(int newBits, int newSize) {
            bits = newBits;
            size = newSize;
            for (int i = 0; i < MOST_NUMBERS; i++) {
                numbers[i] = 0;
            }
        }

        void put(int i, int v) {
            if (bits == 8) {
                numbers[i] = (byte) v;
            } else if (bits == 16) {
                numbers[i] = (short) v;
            } else {
                numbers[i] = v;
            }
        }

        boolean hasRow(int from, int n) {
            return from >= 0 && n >= 0 && n <= size && from <= size - n;
        }
    }

    /** The tape, and the reader of the text on it. */
    private static final class Tape {
        private static final int WORD = 0;
        private static final int NUMBER = 1;
        private static final int SIGN = 2;
        private static final int BLANK = 3;
        private static final int OTHER = 4;
        private static final int END = 5;

        // Eight letters a word: first the kinds, then how gates stand, both by their numbers.
        private static final int WORD_LENGTH = 8;
        private static final int WORDS = 16;
        private static final int WORD_SHUT = 7;
        private static final int WORD_PROPPED = 10;
        private static final int WORD_BEASTS = 11;
        private static final int WORD_WIND = 12;
        private static final int WORD_IN = 13;
        private static final int WORD_BACK = 14;
        private static final int WORD_MOOD = 15;
        private static final String ALL_WORDS =
                "walker  postman dog     child   strangermean    daughtershut    ajar    open    propped beasts  wind    in      back    mood    ";

        final byte[] bytes = new byte[MOST_BYTES];
        int size = 0;
        private final char[] words = ALL_WORDS.toCharArray();
        // Tokens, with one more for the end.
        private final int[] sorts = new int[MOST_BYTES + 1];
        private final int[] places = new int[MOST_BYTES + 1];
        private final int[] lengths = new int[MOST_BYTES + 1];
        private int next = 0;

        void put(int v) {
            if (size < MOST_BYTES) {
                bytes[size] = (byte) v;
                size++;
            }
        }

        /** Makes all that the text tells so: how many items, or -1 less the fault. */
        int tellTo(Farm land) {
            split();
            next = 0;
            for (int items = 1; items <= MOST_BYTES; items++) {
                if (!takeItem(land)) {
                    break;
                }
                if (sorts[next] == END) {
                    return items;
                }
                if (sorts[next] != SIGN) {
                    break;
                }
                next++;
            }
            return -1 - places[next];
        }

        private void split() {
            int tokens = 0;
            int last = BLANK;
            for (int at = 0; at < size; at++) {
                int sort = sortOf(bytes[at]);
                if (sort == last && (sort == WORD || sort == NUMBER) && tokens > 0) {
                    lengths[tokens - 1]++;
                } else if (sort != BLANK) {
                    setToken(tokens, sort, at);
                    tokens++;
                }
                last = sort;
            }
            setToken(tokens, END, size);
        }

        private void setToken(int token, int sort, int place) {
            sorts[token] = sort;
            places[token] = place;
            lengths[token] = 1;
        }

        private static int sortOf(byte b) {
            if (b >= 'a' && b <= 'z') {
                return WORD;
            }
            if (b >= '0' && b <= '9') {
                return NUMBER;
            }
            if (b == ';') {
                return SIGN;
            }
            return b == ' ' ? BLANK : OTHER;
        }

        private boolean takeItem(Farm land) {
            int word = wordAhead();
            if (word < 0) {
                return false;
            }
            if (word < KINDS) {
                return takeWalker(land, word);
            }
            if (word <= WORD_PROPPED) {
                return takeGate(land, word - WORD_SHUT);
            }
            if (word == WORD_BEASTS) {
                return takeBeasts(land);
            }
            return word == WORD_WIND && takeWind(land);
        }

        private boolean takeWalker(Farm land, int kind) {
            int walker = land.addWalker(kind, 0);
            if (walker < 0) {
                return false;
            }
            next++;
            if (takeWord(WORD_IN)) {
                int field = takeNumber(FIELDS - 1);
                if (field < 0) {
                    return false;
                }
                land.parts[ITS_FIELD][walker] = field;
            }
            if (takeWord(WORD_BACK)) {
                land.parts[ITS_WAY][walker] = 1;
            }
            if (takeWord(WORD_MOOD)) {
                int mood = takeNumber(MOST_MOOD);
                if (mood < 0) {
                    return false;
                }
                land.parts[ITS_MOOD][walker] = mood;
            }
            return true;
        }

        private boolean takeGate(Farm land, int stands) {
            next++;
            int gate = takeNumber(GATES - 1);
            if (gate < 0) {
                return false;
            }
            land.standing[gate] = stands;
            return true;
        }

        private boolean takeBeasts(Farm land) {
            next++;
            int field = takeNumber(FIELDS - 1);
            if (field < 0) {
                return false;
            }
            int beasts = takeNumber(MOST_BEASTS);
            if (beasts < 0) {
                return false;
            }
            land.beastsIn[field] = beasts;
            return true;
        }

        private boolean takeWind(Farm land) {
            next++;
            int wind = takeNumber(MOST_WIND);
            if (wind < 0) {
                return false;
            }
            land.windNow = wind;
            return true;
        }

        private boolean takeWord(int word) {
            if (wordAhead() != word) {
                return false;
            }
            next++;
            return true;
        }

        /** The number ahead, or NOTHING (and it stays ahead) if it isn't 0 to most. */
        private int takeNumber(int most) {
            if (sorts[next] != NUMBER) {
                return NOTHING;
            }
            int value = 0;
            for (int i = 0; i < lengths[next]; i++) {
                int digit = bytes[places[next] + i] - '0';
                // A long row of digits must not wrap around to a small number.
                value = Math.min(value * 10 + digit, MOST_BEASTS + 1);
            }
            if (value > most) {
                return NOTHING;
            }
            next++;
            return value;
        }

        /** The number of the word ahead, or NOTHING if there is none, or another one. */
        private int wordAhead() {
            if (sorts[next] != WORD || lengths[next] > WORD_LENGTH) {
                return NOTHING;
            }
            for (int word = 0; word < WORDS; word++) {
                if (isSpelt(word)) {
                    return word;
                }
            }
            return NOTHING;
        }

        private boolean isSpelt(int word) {
            for (int i = 0; i < WORD_LENGTH; i++) {
                int letter = i < lengths[next] ? bytes[places[next] + i] : ' ';
                if (letter != words[word * WORD_LENGTH + i]) {
                    return false;
                }
            }
            return true;
        }
    }
}
