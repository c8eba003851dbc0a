/** Flags in the wash: as long as a country's flag is in the laundry it may make no war. */
public final class FlagWash {
    public static final int UNKNOWN = -1, OUTSIDE = -2, STATE = -3, FULL = -4, NONE = -9;

    private static final int MOST_LETTERS = 48;
    private static final int LAST_LETTER = 255;
    private static final int MOST_FLAGS = 5;
    private static final int ALL_FLAGS = 31;
    private static final int ALL_COLOURS = 15;
    private static final int MOST_WIND = 2;
    private static final int MOST_ACTS = 14;
    private static final int MOST_DOINGS = 6;
    private static final int MOST_SEEN = 6;
    private static final int MOST_DRYING_HOURS = 6;
    private static final int MOST_WEEKS = 30;
    private static final int SLOTS = 2;
    private static final long SEED_FACTOR = 6364136223846793005L;
    private static final long SEED_ADDED = 1442695040888963407L;

    private final int[] letters = new int[MOST_LETTERS];
    private int length = 0;
    private final Reader reader = new Reader();
    private final Plan plan = new Plan();
    private final Wash now = new Wash(plan);
    // Questions try things out on this one, so that they change nothing.
    private final Wash trial = new Wash(plan);
    private final Forecast forecast = new Forecast(trial);
    private final Acts acts = new Acts(plan);
    private final Sightings sightings = new Sightings();
    private final Wash[] slots = new Wash[SLOTS];
    private final boolean[] kept = new boolean[SLOTS];
    private long seedNow = 0;

    public FlagWash() {
        for (int i = 0; i < SLOTS; i++) {
            slots[i] = new Wash(plan);
        }
    }

    // ---- the laundry

    public int write(int letter) {
        if (letter < 0 || letter > LAST_LETTER) {
            return OUTSIDE;
        }
        if (length >= MOST_LETTERS) {
            return FULL;
        }
        letters[length] = letter;
        length++;
        return length;
    }

    public int wipe() {
        int was = length;
        length = 0;
        return was;
    }

    public int fault() {
        return reader.firstFault(letters, length);
    }

    public int laundry() {
        if (reader.firstFault(letters, length) != NONE) {
            return STATE;
        }
        plan.copyFrom(reader.plan);
        now.startAnew();
        acts.forgetAll();
        for (int i = 0; i < SLOTS; i++) {
            kept[i] = false;
        }
        return plan.flags;
    }

    public int flag(int flag, int what) {
        if (!plan.has(flag)) {
            return UNKNOWN;
        }
        switch (what) {
            case 0:
                return now.colours[flag];
            case 1:
                return plan.cloth[flag];
            case 2:
                return plan.hours[flag];
            case 3:
                return now.where[flag];
            case 4:
                return now.left[flag];
            case 5:
                return plan.hostile[flag];
            default:
                return OUTSIDE;
        }
    }

    // ---- acts

    public int send(int flag) {
        if (!plan.has(flag)) {
            return UNKNOWN;
        }
        if (!now.canBeSent(flag)) {
            return STATE;
        }
        acts.remember(now);
        now.putInTub(flag);
        return now.freeTubs();
    }

    public int pull(int flag) {
        if (!plan.has(flag)) {
            return UNKNOWN;
        }
        if (!now.canBePulled(flag)) {
            return STATE;
        }
        acts.remember(now);
        int was = now.where[flag];
        now.bringHome(flag);
        return was;
    }

    public int hour() {
        acts.remember(now);
        return now.passHour();
    }

    public int wind(int wind) {
        if (wind < 0 || wind > MOST_WIND) {
            return OUTSIDE;
        }
        if (wind == now.wind) {
            return STATE;
        }
        acts.remember(now);
        int was = now.wind;
        now.wind = wind;
        return was;
    }

    public int undo() {
        return acts.takeBack(now) ? acts.size : STATE;
    }

    // ---- peace

    public int peace(int flag, int other) {
        if (!plan.has(flag) || !plan.has(other)) {
            return UNKNOWN;
        }
        if (flag == other) {
            return OUTSIDE;
        }
        return forecast.hoursToFight(now, 0, 1 << flag | 1 << other);
    }

    public int quiet() {
        return forecast.hoursToFight(now, 0, ALL_FLAGS);
    }

    public int sending(boolean quiet) {
        int best = forecast.bestToSend(now);
        return quiet ? forecast.hoursToFight(now, best, ALL_FLAGS) : best;
    }

    public int cover() {
        int home = now.homeBits();
        int best = NONE;
        for (int set = 0; set <= ALL_FLAGS; set++) {
            boolean covers = isWithin(set, home) && plan.hostilePairs(home & ~set) == 0;
            if (covers && isFewer(set, best)) {
                best = set;
            }
        }
        return best;
    }

    public int ran(int flag, int colours) {
        if (!plan.has(flag)) {
            return UNKNOWN;
        }
        if (!areColours(colours)) {
            return OUTSIDE;
        }
        int others = plan.allBits() & ~(1 << flag);
        int best = NONE;
        for (int set = 0; set <= ALL_FLAGS; set++) {
            boolean fits = isWithin(set, others) && now.coloursOf(set | 1 << flag) == colours;
            if (fits && isFewer(set, best)) {
                best = set;
            }
        }
        return best;
    }

    public int judge(int n, int row) {
        if (n < 1 || n > MOST_DOINGS || row < 0 || withoutLastFigures(row, n) != 0) {
            return OUTSIDE;
        }
        trial.copyFrom(now);
        for (int i = 0; i < n; i++) {
            int figure = withoutLastFigures(row, n - 1 - i) % 10;
            if (!trial.doFigure(figure)) {
                return i;
            }
        }
        return NONE;
    }

    // ---- seen

    public int see(int flag, int colours, int with) {
        if (!plan.has(flag)) {
            return UNKNOWN;
        }
        if (!areColours(colours) || !isWithin(with, ALL_FLAGS & ~(1 << flag))) {
            return OUTSIDE;
        }
        return sightings.add(flag, colours, with) ? sightings.size : FULL;
    }

    public int unsee() {
        int was = sightings.size;
        sightings.forgetAll();
        return was;
    }

    public int had(int flag, int what) {
        if (!plan.has(flag)) {
            return UNKNOWN;
        }
        switch (what) {
            case 0:
                return sightings.howManySets(flag, now);
            case 1:
                return sightings.coloursInAll(flag, now);
            case 2:
                return sightings.coloursInNone(flag, now);
            default:
                return OUTSIDE;
        }
    }

    // ---- shares, rests, chances

    public int share(int flag, boolean upper) {
        if (!plan.has(flag)) {
            return UNKNOWN;
        }
        return toldFraction(Shares.gainInAllOrders(plan, flag), Shares.orders(plan.flags), upper);
    }

    public int rests(int flag, int other, int what) {
        if (!plan.has(flag) || !plan.has(other)) {
            return UNKNOWN;
        }
        if (flag == other) {
            return OUTSIDE;
        }
        switch (what) {
            case 0:
                return Game.howManyRests(plan, flag, other);
            case 1:
                return Game.firstRest(plan, flag, other);
            default:
                return OUTSIDE;
        }
    }

    public int dry(int flag, int n, int x, boolean upper) {
        if (!plan.has(flag)) {
            return UNKNOWN;
        }
        if (n < 1 || n > MOST_DRYING_HOURS || x < 0 || x > 10) {
            return OUTSIDE;
        }
        if (now.where[flag] != Wash.LINE) {
            return STATE;
        }
        return toldFraction(Chances.waysToDry(now.left[flag], n, x), Chances.power(10, n), upper);
    }

    public long seed(long v) {
        long was = seedNow;
        seedNow = v;
        return was;
    }

    public int weeks(int m) {
        if (m < 1 || m > MOST_WEEKS) {
            return OUTSIDE;
        }
        trial.copyFrom(now);
        int fights = 0;
        for (int i = 0; i < m; i++) {
            seedNow = seedNow * SEED_FACTOR + SEED_ADDED;
            trial.doByChance((int) ((seedNow >>> 33) % 10));
            if (trial.pairsThatMayFight() > 0) {
                fights++;
            }
        }
        return fights;
    }

    // ---- slots

    public int keep(int slot) {
        if (slot < 0 || slot >= SLOTS) {
            return UNKNOWN;
        }
        slots[slot].copyFrom(now);
        kept[slot] = true;
        return now.hour;
    }

    public int again(int slot) {
        if (slot < 0 || slot >= SLOTS) {
            return UNKNOWN;
        }
        if (!kept[slot]) {
            return STATE;
        }
        now.copyFrom(slots[slot]);
        acts.forgetAll();
        return now.hour;
    }

    public int count(int what) {
        switch (what) {
            case 0:
                return length;
            case 1:
                return plan.flags;
            case 2:
                return now.freeTubs();
            case 3:
                return now.freePegs();
            case 4:
                return now.wind;
            case 5:
                return now.homeBits();
            case 6:
                return now.pairsThatMayFight();
            case 7:
                return now.hour;
            case 8:
                return acts.size;
            case 9:
                return sightings.size;
            default:
                return OUTSIDE;
        }
    }

    // ---- what several of these use

    private static boolean areColours(int colours) {
        return colours >= 0 && colours <= ALL_COLOURS;
    }

    private static boolean isWithin(int set, int bits) {
        return (set & ~bits) == 0;
    }

    // Sets are tried from the least on, so of like ones the least stays.
    private static boolean isFewer(int set, int best) {
        return best == NONE || Integer.bitCount(set) < Integer.bitCount(best);
    }

    private static int withoutLastFigures(int row, int figures) {
        int rest = row;
        for (int i = 0; i < figures; i++) {
            rest /= 10;
        }
        return rest;
    }

    private static int toldFraction(int above, int below, boolean upper) {
        int common = greatestCommon(above, below);
        if (common == 0) {
            return NONE;
        }
        return (upper ? above : below) / common;
    }

    private static int greatestCommon(int first, int second) {
        int a = first;
        int b = second;
        // Euclid's steps for two ints are fewer than 50.
        for (int step = 0; step < 100 && b != 0; step++) {
            int rest = a % b;
            a = b;
            b = rest;
        }
        return a;
    }

    /** What THE LAUNDRY's text tells; it does not change with the hours. */
    private static final class Plan {
        int tubs = 1;
        int pegs = 1;
        int wind = 0;
        int flags = 0;
        final int[] colours = new int[MOST_FLAGS];
        final int[] cloth = new int[MOST_FLAGS];
        final int[] hours = new int[MOST_FLAGS];
        final int[] hostile = new int[MOST_FLAGS];

        void copyFrom(Plan other) {
            tubs = other.tubs;
            pegs = other.pegs;
            wind = other.wind;
            flags = other.flags;
            System.arraycopy(other.colours, 0, colours, 0, MOST_FLAGS);
            System.arraycopy(other.cloth, 0, cloth, 0, MOST_FLAGS);
            System.arraycopy(other.hours, 0, hours, 0, MOST_FLAGS);
            System.arraycopy(other.hostile, 0, hostile, 0, MOST_FLAGS);
        }

        boolean has(int flag) {
            return flag >= 0 && flag < flags;
        }

        int allBits() {
            return (1 << flags) - 1;
        }

        void addFlag(int itsColours, int itsCloth, int itsHours) {
            if (flags < MOST_FLAGS) {
                colours[flags] = itsColours;
                cloth[flags] = itsCloth;
                hours[flags] = itsHours;
                hostile[flags] = 0;
                flags++;
            }
        }

        void makeHostile(int flag, int other) {
            if (has(flag) && has(other)) {
                hostile[flag] |= 1 << other;
                hostile[other] |= 1 << flag;
            }
        }

        boolean areHostile(int flag, int other) {
            return has(flag) && (hostile[flag] >> other & 1) != 0;
        }

        /** The flags, as bits, to which this one may still be told to be hostile. */
        int notYetHostile(int flag) {
            return has(flag) ? allBits() & ~(1 << flag) & ~hostile[flag] : 0;
        }

        boolean anyNotYetHostile() {
            for (int i = 0; i < flags; i++) {
                if (notYetHostile(i) != 0) {
                    return true;
                }
            }
            return false;
        }

        int hostilePairs(int bits) {
            int twice = 0;
            for (int i = 0; i < flags; i++) {
                if ((bits >> i & 1) != 0) {
                    twice += Integer.bitCount(hostile[i] & bits);
                }
            }
            return twice / 2;
        }
    }

    /** Reads the text letter by letter; a letter is taken only if a laundry can still come of it. */
    private static final class Reader {
        private static final int AT_U = 0, AT_TUBS = 1, AT_PEGS = 2, AT_WIND = 3, AT_PART = 4;
        private static final int AT_COLOURS = 5, AT_CLOTH = 6, AT_HOURS = 7, AT_ONE = 8, AT_OTHER = 9;

        final Plan plan = new Plan();
        private int stage = AT_U;
        private int colours = 0;
        private int cloth = 0;
        private int one = 0;

        int firstFault(int[] letters, int length) {
            plan.flags = 0;
            stage = AT_U;
            for (int i = 0; i < length && i < letters.length; i++) {
                if (!takes(letters[i])) {
                    return i;
                }
            }
            return stage == AT_PART ? NONE : length;
        }

        private boolean takes(int letter) {
            switch (stage) {
                case AT_PART:
                    return takesPart(letter);
                case AT_COLOURS:
                case AT_CLOTH:
                case AT_HOURS:
                    return takesOfFlag(letter);
                case AT_ONE:
                case AT_OTHER:
                    return takesOfHostile(letter - '0');
                default:
                    return takesOfHead(letter);
            }
        }

        private boolean takesOfHead(int letter) {
            int figure = letter - '0';
            if (stage == AT_U) {
                return goOn(letter == 'U', AT_TUBS);
            }
            if (stage == AT_TUBS) {
                plan.tubs = figure;
                return goOn(figure >= 1 && figure <= 3, AT_PEGS);
            }
            if (stage == AT_PEGS) {
                plan.pegs = figure;
                return goOn(figure >= 1 && figure <= 4, AT_WIND);
            }
            plan.wind = figure;
            return goOn(figure >= 0 && figure <= MOST_WIND, AT_PART);
        }

        private boolean takesPart(int letter) {
            if (letter == 'F') {
                return goOn(plan.flags < MOST_FLAGS, AT_COLOURS);
            }
            return goOn(letter == 'H' && plan.anyNotYetHostile(), AT_ONE);
        }

        private boolean takesOfFlag(int letter) {
            int figure = letter - '0';
            if (stage == AT_COLOURS) {
                colours = letter - 'a';
                return goOn(areColours(colours), AT_CLOTH);
            }
            if (stage == AT_CLOTH) {
                cloth = figure;
                return goOn(figure >= 0 && figure <= 3, AT_HOURS);
            }
            if (figure < 1 || figure > 4) {
                return false;
            }
            plan.addFlag(colours, cloth, figure);
            return goOn(true, AT_PART);
        }

        private boolean takesOfHostile(int figure) {
            if (stage == AT_ONE) {
                one = figure;
                return goOn(plan.notYetHostile(figure) != 0, AT_OTHER);
            }
            if (!plan.has(figure) || (plan.notYetHostile(one) >> figure & 1) == 0) {
                return false;
            }
            plan.makeHostile(one, figure);
            return goOn(true, AT_PART);
        }

        private boolean goOn(boolean fits, int next) {
            if (fits) {
                stage = next;
            }
            return fits;
        }
    }

    /** Where the flags of a plan are, and what hours and acts do to them. */
    private static final class Wash {
        static final int HOME = 0, TUB = 1, LINE = 2;
        private static final int DYED = 3;
        // By cloth: cotton, wool, silk, dyed.
        private static final int[] WET = {4, 6, 2, 4};

        final Plan plan;
        final int[] where = new int[MOST_FLAGS];
        final int[] left = new int[MOST_FLAGS];
        final int[] colours = new int[MOST_FLAGS];
        int wind = 0;
        int hour = 0;

        Wash(Plan itsPlan) {
            plan = itsPlan;
        }

        void startAnew() {
            for (int i = 0; i < MOST_FLAGS; i++) {
                where[i] = HOME;
                left[i] = 0;
                colours[i] = plan.colours[i];
            }
            wind = plan.wind;
            hour = 0;
        }

        void copyFrom(Wash other) {
            System.arraycopy(other.where, 0, where, 0, MOST_FLAGS);
            System.arraycopy(other.left, 0, left, 0, MOST_FLAGS);
            System.arraycopy(other.colours, 0, colours, 0, MOST_FLAGS);
            wind = other.wind;
            hour = other.hour;
        }

        int bitsAt(int place) {
            int bits = 0;
            for (int i = 0; i < plan.flags; i++) {
                if (where[i] == place) {
                    bits |= 1 << i;
                }
            }
            return bits;
        }

        int homeBits() {
            return bitsAt(HOME);
        }

        int freeTubs() {
            return plan.tubs - Integer.bitCount(bitsAt(TUB));
        }

        int freePegs() {
            return plan.pegs - Integer.bitCount(bitsAt(LINE));
        }

        int coloursOf(int bits) {
            int together = 0;
            for (int i = 0; i < plan.flags; i++) {
                if ((bits >> i & 1) != 0) {
                    together |= colours[i];
                }
            }
            return together;
        }

        int pairsThatMayFight() {
            return plan.hostilePairs(homeBits());
        }

        boolean canBeSent(int flag) {
            return plan.has(flag) && where[flag] == HOME && freeTubs() > 0;
        }

        void putInTub(int flag) {
            if (plan.has(flag)) {
                where[flag] = TUB;
                left[flag] = plan.hours[flag];
            }
        }

        boolean canBePulled(int flag) {
            return plan.has(flag) && where[flag] != HOME;
        }

        void bringHome(int flag) {
            if (plan.has(flag)) {
                where[flag] = HOME;
                left[flag] = 0;
            }
        }

        int passHour() {
            int cameHome = dryOnLine();
            runInTubs();
            washInTubs();
            hangUp();
            hour++;
            return cameHome;
        }

        private int dryOnLine() {
            int cameHome = 0;
            for (int i = 0; i < plan.flags; i++) {
                if (where[i] == LINE) {
                    left[i] -= 1 + wind;
                    if (left[i] <= 0) {
                        bringHome(i);
                        cameHome |= 1 << i;
                    }
                }
            }
            return cameHome;
        }

        private void runInTubs() {
            int dye = 0;
            for (int i = 0; i < plan.flags; i++) {
                if (where[i] == TUB && plan.cloth[i] == DYED) {
                    dye |= colours[i];
                }
            }
            for (int i = 0; i < plan.flags; i++) {
                if (where[i] == TUB) {
                    colours[i] |= dye;
                }
            }
        }

        private void washInTubs() {
            for (int i = 0; i < plan.flags; i++) {
                if (where[i] == TUB && left[i] > 0) {
                    left[i]--;
                }
            }
        }

        private void hangUp() {
            for (int i = 0; i < plan.flags; i++) {
                if (where[i] == TUB && left[i] == 0 && freePegs() > 0) {
                    where[i] = LINE;
                    left[i] = wetOf(plan.cloth[i]);
                }
            }
        }

        private static int wetOf(int cloth) {
            return cloth >= 0 && cloth < WET.length ? WET[cloth] : 0;
        }

        boolean doFigure(int figure) {
            if (figure == 0) {
                passHour();
                return true;
            }
            if (figure <= 5) {
                return sendIfItCan(figure - 1);
            }
            boolean can = canBePulled(figure - 6);
            if (can) {
                bringHome(figure - 6);
            }
            return can;
        }

        void doByChance(int figure) {
            if (figure < 5) {
                sendIfItCan(figure);
            } else {
                wind = figure % 3;
                passHour();
            }
        }

        private boolean sendIfItCan(int flag) {
            boolean can = canBeSent(flag);
            if (can) {
                putInTub(flag);
            }
            return can;
        }
    }

    /** What comes of hours in which nothing else is done. */
    private static final class Forecast {
        private static final int MOST_HOURS = 40;
        private final Wash ahead;

        Forecast(Wash trial) {
            ahead = trial;
        }

        /** In how many hours two of these flags may first fight, once those to send are sent. */
        int hoursToFight(Wash from, int toSend, int flags) {
            // Without this the hours would be gone through for a war that can never come.
            if (from.plan.hostilePairs(flags) == 0) {
                return NONE;
            }
            ahead.copyFrom(from);
            for (int i = 0; i < MOST_FLAGS; i++) {
                if ((toSend >> i & 1) != 0) {
                    ahead.putInTub(i);
                }
            }
            for (int i = 0; i <= MOST_HOURS; i++) {
                if (ahead.plan.hostilePairs(ahead.homeBits() & flags) > 0) {
                    return i;
                }
                ahead.passHour();
            }
            return NONE;
        }

        int bestToSend(Wash from) {
            int home = from.homeBits();
            int tubs = from.freeTubs();
            int best = NONE;
            int longest = 0;
            for (int set = 0; set <= ALL_FLAGS; set++) {
                if (!isWithin(set, home) || Integer.bitCount(set) > tubs) {
                    continue;
                }
                int hours = hoursToFight(from, set, ALL_FLAGS);
                int rank = hours == NONE ? MOST_HOURS + 1 : hours;
                if (best == NONE || rank > longest || (rank == longest && isFewer(set, best))) {
                    best = set;
                    longest = rank;
                }
            }
            return best;
        }
    }

    /** How all was ahead of each of the last acts. */
    private static final class Acts {
        private final Wash[] before = new Wash[MOST_ACTS];
        private int first = 0;
        int size = 0;

        Acts(Plan plan) {
            for (int i = 0; i < MOST_ACTS; i++) {
                before[i] = new Wash(plan);
            }
        }

        void forgetAll() {
            first = 0;
            size = 0;
        }

        void remember(Wash now) {
            if (size == MOST_ACTS) {
                first = (first + 1) % MOST_ACTS;
                size--;
            }
            before[(first + size) % MOST_ACTS].copyFrom(now);
            size++;
        }

        boolean takeBack(Wash now) {
            if (size == 0) {
                return false;
            }
            size--;
            now.copyFrom(before[(first + size) % MOST_ACTS]);
            return true;
        }
    }

    /** What was seen of flags that came home. */
    private static final class Sightings {
        private final int[] flag = new int[MOST_SEEN];
        private final int[] colours = new int[MOST_SEEN];
        private final int[] with = new int[MOST_SEEN];
        int size = 0;

        void forgetAll() {
            size = 0;
        }

        boolean add(int ofFlag, int itsColours, int withFlags) {
            if (size >= MOST_SEEN) {
                return false;
            }
            flag[size] = ofFlag;
            colours[size] = itsColours;
            with[size] = withFlags;
            size++;
            return true;
        }

        int howManySets(int ofFlag, Wash now) {
            int sets = 0;
            for (int own = 0; own <= ALL_COLOURS; own++) {
                if (fitsAll(ofFlag, own, now)) {
                    sets++;
                }
            }
            return sets;
        }

        int coloursInAll(int ofFlag, Wash now) {
            int inAll = NONE;
            for (int own = 0; own <= ALL_COLOURS; own++) {
                if (fitsAll(ofFlag, own, now)) {
                    inAll = inAll == NONE ? own : inAll & own;
                }
            }
            return inAll;
        }

        int coloursInNone(int ofFlag, Wash now) {
            int inNone = NONE;
            for (int own = 0; own <= ALL_COLOURS; own++) {
                if (fitsAll(ofFlag, own, now)) {
                    inNone = (inNone == NONE ? ALL_COLOURS : inNone) & ~own;
                }
            }
            return inNone;
        }

        private boolean fitsAll(int ofFlag, int own, Wash now) {
            for (int i = 0; i < size && i < MOST_SEEN; i++) {
                // With a flag that is not there any more nothing can be said, so nothing is looked at.
                boolean looksAt = flag[i] == ofFlag && isWithin(with[i], now.plan.allBits());
                if (looksAt && (own | now.coloursOf(with[i])) != colours[i]) {
                    return false;
                }
            }
            return true;
        }
    }

    /** Who adds how much to the peace, if flags come into the laundry in any order. */
    private static final class Shares {
        private static final int[] ORDERS = {1, 1, 2, 6, 24, 120};

        static int orders(int flags) {
            return flags >= 0 && flags < ORDERS.length ? ORDERS[flags] : 1;
        }

        static int gainInAllOrders(Plan plan, int flag) {
            int gain = 0;
            for (int set = 0; set <= ALL_FLAGS; set++) {
                if (isWithin(set, plan.allBits() & ~(1 << flag))) {
                    int came = Integer.bitCount(set);
                    int more = inPeace(plan, set | 1 << flag) - inPeace(plan, set);
                    gain += more * orders(came) * orders(plan.flags - 1 - came);
                }
            }
            return gain;
        }

        private static int inPeace(Plan plan, int washed) {
            int countries = 0;
            for (int i = 0; i < plan.flags; i++) {
                boolean isWashed = (washed >> i & 1) != 0;
                if (isWashed || isWithin(plan.hostile[i], washed)) {
                    countries++;
                }
            }
            return countries;
        }
    }

    /** Two countries that each keep a flag or send it. */
    private static final class Game {
        private static final int SENDS = 0, KEEPS = 1;
        private static final int LOST_IN_WAR = 5, HAD_FROM_KEEPING = 2;

        static int howManyRests(Plan plan, int flag, int other) {
            int rests = 0;
            for (int one = SENDS; one <= KEEPS; one++) {
                for (int two = SENDS; two <= KEEPS; two++) {
                    if (isRest(plan, flag, other, one, two)) {
                        rests++;
                    }
                }
            }
            return rests;
        }

        static int firstRest(Plan plan, int flag, int other) {
            for (int one = SENDS; one <= KEEPS; one++) {
                for (int two = SENDS; two <= KEEPS; two++) {
                    if (isRest(plan, flag, other, one, two)) {
                        return 10 * one + two;
                    }
                }
            }
            return NONE;
        }

        private static boolean isRest(Plan plan, int flag, int other, int one, int two) {
            return gain(plan, flag, other, one, two) >= gain(plan, flag, other, 1 - one, two)
                    && gain(plan, other, flag, two, one) >= gain(plan, other, flag, 1 - two, one);
        }

        /** What the flag's country has, if it chooses this and the other one that. */
        private static int gain(Plan plan, int flag, int other, int choice, int others) {
            if (choice == SENDS) {
                return plan.has(flag) ? -plan.hours[flag] : 0;
            }
            if (others == SENDS) {
                return HAD_FROM_KEEPING;
            }
            return plan.areHostile(flag, other) ? -LOST_IN_WAR : 0;
        }
    }

    /** Drying in hours of which each has, by chance, a wind of 2 or of 0. */
    private static final class Chances {
        /** Of 10 to the power of the hours, in how many the flag comes to be dry. */
        static int waysToDry(int wet, int hours, int tenths) {
            int ways = 0;
            for (int windy = 0; windy <= hours; windy++) {
                if (hours + 2 * windy >= wet) {
                    ways += choices(hours, windy) * power(tenths, windy) * power(10 - tenths, hours - windy);
                }
            }
            return ways;
        }

        static int power(int base, int times) {
            int product = 1;
            for (int i = 0; i < times; i++) {
                product *= base;
            }
            return product;
        }

        private static int choices(int all, int chosen) {
            int ways = 1;
            for (int i = 1; i <= chosen; i++) {
                ways = ways * (all - chosen + i) / i;
            }
            return ways;
        }
    }
}
