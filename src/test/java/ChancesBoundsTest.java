import java.math.BigInteger;

/** Edges of promises 21 to 25, one test for each sentence of the document that names one. */
public final class ChancesBoundsTest {
    private static final int[] NO_FLAGS_OF_THREE =
            {-1, 3, 4, 5, 31, 32, 33, -32, Integer.MIN_VALUE, Integer.MAX_VALUE};
    private static final BigInteger FACTOR = new BigInteger("6364136223846793005");
    private static final BigInteger ADDED = new BigInteger("1442695040888963407");
    private static final long[] SEEDS = {0, 1, -1, 2, Long.MAX_VALUE, Long.MIN_VALUE, Long.MAX_VALUE - 1,
        Long.MIN_VALUE + 1, 1L << 32, 1L << 33, -(1L << 33), 0xFFFFFFFFL, 123456789012345L};

    public static void main(String[] args) {
        shareUnknown();
        shareOfFewAndMany();
        shareInLeastTerms();
        restsUnknown();
        restsOutside();
        restsOfAllHours();
        dryOrderOfRefusals();
        dryHours();
        dryTenths();
        dryNotOnLine();
        dryOfAllWets();
        seedOfAllBits();
        weeksHowMany();
        weeksNoneAndAll();
        weeksWrapAround();
        weeksUpperBits();
        weeksIfItCanBe();
        weeksWinds();
        nothingIsChanged();
        Check.end();
    }

    /** Flag 0 is on the line, flag 1 in a tub, flag 2 at home. */
    private static void busy(FlagWash wash) {
        Check.makeAnew(wash, "U211Fb11Fe34Fa21H01H21");
        wash.keep(1);
        wash.send(0);
        wash.send(1);
        wash.hour();
        wash.see(0, 5, 2);
        wash.seed(77);
    }

    private static void shareUnknown() {
        Check.sentence("21: UNKNOWN; refusals of FRACTIONS are told likewise");
        for (int flag : NO_FLAGS_OF_THREE) {
            Twins.refused("share(" + flag + ", true)", ChancesBoundsTest::busy, w -> w.share(flag, true),
                    FlagWash.UNKNOWN);
            Twins.refused("share(" + flag + ", false)", ChancesBoundsTest::busy, w -> w.share(flag, false),
                    FlagWash.UNKNOWN);
        }
    }

    private static void dueShare(FlagWash wash, int flag, int above, int below) {
        Check.due("share(" + flag + ", true)", wash.share(flag, true), above);
        Check.due("share(" + flag + ", false)", wash.share(flag, false), below);
    }

    private static void shareOfFewAndMany() {
        Check.sentence("3: SHARE: one whose FLAG is in the laundry, or that is HOSTILE to none whose FLAG is at HOME");
        dueShare(Check.laundry("U110Fa01"), 0, 0, 1);
        dueShare(Check.laundry("U110Fa01Fa01"), 1, 0, 1);
        dueShare(Check.laundry("U110Fa01Fa01H01"), 0, 1, 1);
        dueShare(Check.laundry("U110Fa01Fa01H01"), 1, 1, 1);
        // One against all: as the first it brings 5, then 4, 3, 2, and as the last nothing.
        FlagWash star = Check.laundry("U110Fa01Fa01Fa01Fa01Fa01H40H41H42H43");
        dueShare(star, 4, 14, 5);
        for (int flag = 0; flag < 4; flag++) {
            dueShare(star, flag, 11, 20);
        }
        // Four that are all foes: each brings as much as the others.
        FlagWash all = Check.laundry("U110Fa01Fa01Fa01Fa01H01H02H03H12H13H23");
        for (int flag = 0; flag < 4; flag++) {
            dueShare(all, flag, 1, 1);
        }
        // Tubs, and where flags are now, are not asked.
        all.send(0);
        dueShare(all, 0, 1, 1);
        dueShare(all, 1, 1, 1);
    }

    private static void shareInLeastTerms() {
        Check.sentence("FRACTIONS are told above, below (1 and more), in least terms: 21");
        String[] pairs = {"H01", "H02", "H03", "H12", "H13", "H23"};
        for (int set = 0; set < 64; set++) {
            StringBuilder text = new StringBuilder("U110Fa01Fa01Fa01Fa01");
            for (int i = 0; i < 6; i++) {
                text.append((set >> i & 1) == 1 ? pairs[i] : "");
            }
            FlagWash wash = Check.laundry(text.toString());
            Model model = new Model();
            text.chars().forEach(model::write);
            model.laundry();
            for (int flag = 0; flag < 4; flag++) {
                int above = wash.share(flag, true);
                int below = wash.share(flag, false);
                Check.due("above, of " + text, above, model.share(flag, true));
                Check.due("below, of " + text, below, model.share(flag, false));
                dueLeastTerms(above, below);
            }
        }
    }

    private static void dueLeastTerms(int above, int below) {
        Check.dueTrue("1 and more: " + below, below >= 1);
        Check.due("least terms of " + above + "/" + below, common(above, below), 1);
    }

    private static long common(long a, long b) {
        return BigInteger.valueOf(a).gcd(BigInteger.valueOf(b)).longValue();
    }

    private static void restsUnknown() {
        Check.sentence("22: UNKNOWN: both; OUTSIDE: both are one, what");
        for (int flag : NO_FLAGS_OF_THREE) {
            Twins.refused("rests(" + flag + ", 0, 0)", ChancesBoundsTest::busy, w -> w.rests(flag, 0, 0),
                    FlagWash.UNKNOWN);
            Twins.refused("rests(0, " + flag + ", 1)", ChancesBoundsTest::busy, w -> w.rests(0, flag, 1),
                    FlagWash.UNKNOWN);
            Twins.refused("rests of " + flag + " alone", ChancesBoundsTest::busy, w -> w.rests(flag, flag, 2),
                    FlagWash.UNKNOWN);
            Twins.refused("rests(0, " + flag + ", -1)", ChancesBoundsTest::busy, w -> w.rests(0, flag, -1),
                    FlagWash.UNKNOWN);
        }
    }

    private static void restsOutside() {
        Check.sentence("22: OUTSIDE: both are one, what");
        for (int what : new int[] {-1, 2, 32, Integer.MIN_VALUE, Integer.MAX_VALUE}) {
            Twins.refused("rests(0, 1, " + what + ")", ChancesBoundsTest::busy, w -> w.rests(0, 1, what),
                    FlagWash.OUTSIDE);
        }
        for (int what = -1; what <= 2; what++) {
            int asked = what;
            Twins.refused("rests(0, 0, " + what + ")", ChancesBoundsTest::busy, w -> w.rests(0, 0, asked),
                    FlagWash.OUTSIDE);
            Twins.refused("rests(2, 2, " + what + ")", ChancesBoundsTest::busy, w -> w.rests(2, 2, asked),
                    FlagWash.OUTSIDE);
        }
    }

    private static void restsOfAllHours() {
        Check.sentence("3: RESTS: pairs in which neither has more by another choice alone: how many; the first");
        for (int one = 1; one <= 4; one++) {
            for (int other = 1; other <= 4; other++) {
                // To send loses 4 at most, the war 5: of foes just one sends, of friends none.
                FlagWash foes = Check.laundry("U110Fa0" + one + "Fa0" + other + "H01");
                dueRests(foes, 2, 1);
                FlagWash friends = Check.laundry("U110Fa0" + one + "Fa0" + other);
                dueRests(friends, 1, 11);
            }
        }
    }

    private static void dueRests(FlagWash wash, int howMany, int first) {
        Check.due("rests(0, 1, 0)", wash.rests(0, 1, 0), howMany);
        Check.due("rests(1, 0, 0)", wash.rests(1, 0, 0), howMany);
        Check.due("rests(0, 1, 1)", wash.rests(0, 1, 1), first);
        Check.due("rests(1, 0, 1)", wash.rests(1, 0, 1), first);
    }

    private static void dryOrderOfRefusals() {
        Check.sentence("REFUSALS, of several the first that a call names: 23: UNKNOWN; OUTSIDE: n, x; STATE");
        for (boolean upper : new boolean[] {true, false}) {
            for (int flag : NO_FLAGS_OF_THREE) {
                dryRefused(flag, 1, 0, upper, FlagWash.UNKNOWN);
                dryRefused(flag, 0, 11, upper, FlagWash.UNKNOWN);
            }
            dryRefused(1, 0, 0, upper, FlagWash.OUTSIDE);
            dryRefused(2, 7, 0, upper, FlagWash.OUTSIDE);
            dryRefused(1, 1, -1, upper, FlagWash.OUTSIDE);
            dryRefused(2, 1, 11, upper, FlagWash.OUTSIDE);
        }
    }

    private static void dryRefused(int flag, int n, int x, boolean upper, int want) {
        Twins.refused("dry(" + flag + ", " + n + ", " + x + ", " + upper + ")", ChancesBoundsTest::busy,
                w -> w.dry(flag, n, x, upper), want);
    }

    private static void dryHours() {
        Check.sentence("3: DRY: each of n HOURS (1 to 6)");
        for (boolean upper : new boolean[] {true, false}) {
            for (int n : new int[] {0, -1, 7, 32, Integer.MIN_VALUE, Integer.MAX_VALUE}) {
                dryRefused(0, n, 5, upper, FlagWash.OUTSIDE);
            }
        }
        FlagWash wash = new FlagWash();
        busy(wash);
        Check.due("dry(0, 1, 0, true)", wash.dry(0, 1, 0, true), 0);
        Check.due("dry(0, 6, 0, true)", wash.dry(0, 6, 0, true), 1);
        Check.due("dry(0, 5, 0, true)", wash.dry(0, 5, 0, true), 0);
    }

    private static void dryTenths() {
        Check.sentence("3: DRY: a WIND of 2 by x tenths (0 to 10)");
        for (boolean upper : new boolean[] {true, false}) {
            for (int x : new int[] {-1, 11, 32, Integer.MIN_VALUE, Integer.MAX_VALUE}) {
                dryRefused(0, 2, x, upper, FlagWash.OUTSIDE);
            }
        }
        FlagWash wash = new FlagWash();
        busy(wash);
        Check.due("dry(0, 2, 0, true)", wash.dry(0, 2, 0, true), 0);
        Check.due("dry(0, 2, 0, false)", wash.dry(0, 2, 0, false), 1);
        Check.due("dry(0, 2, 10, true)", wash.dry(0, 2, 10, true), 1);
        Check.due("dry(0, 2, 10, false)", wash.dry(0, 2, 10, false), 1);
    }

    private static void dryNotOnLine() {
        Check.sentence("23: STATE: it is not on the LINE");
        for (boolean upper : new boolean[] {true, false}) {
            dryRefused(1, 1, 0, upper, FlagWash.STATE);
            dryRefused(2, 6, 10, upper, FlagWash.STATE);
        }
        FlagWash wash = Check.laundry("U110Fa21");
        wash.send(0);
        wash.hour();
        Check.due("dry(0, 1, 10, true), on the line", wash.dry(0, 1, 10, true), 1);
        wash.hour();
        wash.hour();
        Check.due("dry(0, 1, 10, true), home again", wash.dry(0, 1, 10, true), FlagWash.STATE);
        FlagWash waits = Check.laundry("U210Fa11Fa21");
        waits.send(0);
        waits.send(1);
        waits.hour();
        Check.due("dry(1, 1, 10, true), washed, in its tub", waits.dry(1, 1, 10, true), FlagWash.STATE);
    }

    private static void dryOfAllWets() {
        Check.sentence("3: DRY: that it is at HOME then: a FRACTION; in least terms");
        FlagWash windy = onLine(6);
        for (int wet = 6; wet >= 1; wet--) {
            Check.due("flag(0, 4)", windy.flag(0, 4), wet);
            // The wind that there is now is not asked.
            windy.wind(2);
            for (int n = 1; n <= 6; n++) {
                dueDry(windy, wet, n, 5);
            }
            windy.wind(0);
            windy.hour();
        }
        Check.due("flag(0, 3)", windy.flag(0, 3), 0);
        for (int wet = 6; wet >= 1; wet--) {
            for (int n = 1; n <= 6; n++) {
                dueDryOf(onLine(wet), wet, n);
            }
        }
    }

    private static FlagWash onLine(int wet) {
        FlagWash wash = Check.laundry("U110Fa11");
        wash.send(0);
        wash.hour();
        for (int i = 6; i > wet; i--) {
            wash.hour();
        }
        return wash;
    }

    private static void dueDryOf(FlagWash wash, int wet, int n) {
        for (int x = 0; x <= 10; x++) {
            dueDry(wash, wet, n, x);
        }
    }

    private static void dueDry(FlagWash wash, int wet, int n, int x) {
        long ways = ways(wet, n, x);
        long all = Math.round(Math.pow(10, n));
        long common = common(ways, all);
        String call = "dry(0, " + n + ", " + x + ") of " + wet;
        Check.due(call, wash.dry(0, n, x, true), ways / common);
        Check.due(call, wash.dry(0, n, x, false), all / common);
    }

    private static long ways(int wet, int n, int x) {
        if (n == 0) {
            return wet <= 0 ? 1 : 0;
        }
        return x * ways(wet - 3, n - 1, x) + (10 - x) * ways(wet - 1, n - 1, x);
    }

    private static void seedOfAllBits() {
        Check.sentence("24: THE SEED is v: what it was (a long; 0 at first)");
        FlagWash wash = new FlagWash();
        long was = 0;
        for (long v : SEEDS) {
            Check.due("seed(" + v + ")", wash.seed(v), was);
            was = v;
        }
        for (int bit = 0; bit < 64; bit++) {
            Check.due("seed of bit " + bit, wash.seed(1L << bit), was);
            was = 1L << bit;
        }
    }

    private static void weeksHowMany() {
        Check.sentence("25: m times (1 to 30); OUTSIDE: m");
        for (int m : new int[] {0, -1, 31, 32, 256, Integer.MIN_VALUE, Integer.MAX_VALUE}) {
            Twins.refused("weeks(" + m + ")", ChancesBoundsTest::busy, w -> w.weeks(m), FlagWash.OUTSIDE);
        }
        FlagWash wash = new FlagWash();
        busy(wash);
        Check.dueTrue("weeks(1)", wash.weeks(1) >= 0);
        Check.dueTrue("weeks(30)", wash.weeks(30) >= 0);
    }

    private static void weeksNoneAndAll() {
        Check.sentence("3: WEEKS: behind how many of these m any two MAY fight");
        FlagWash friends = Check.laundry("U110Fa01Fa01Fa01Fa01Fa01");
        // Two at most are in the wash, so a pair of three foes or the two others are at home.
        FlagWash foes = Check.laundry("U110Fa01Fa01Fa01Fa01Fa01H01H12H02H34");
        for (int m = 1; m <= 30; m++) {
            Check.due("weeks(" + m + ") of friends", friends.weeks(m), 0);
            Check.due("weeks(" + m + ") of foes", foes.weeks(m), m);
        }
    }

    private static long next(long seed) {
        return BigInteger.valueOf(seed).multiply(FACTOR).add(ADDED).longValue();
    }

    private static void weeksWrapAround() {
        Check.sentence("3: WEEKS: x becomes x times 6364136223846793005 and 1442695040888963407 (64 bits, wrapping)");
        for (long seed : SEEDS) {
            FlagWash wash = Check.laundry("U110Fa01Fa01H01");
            long x = seed;
            wash.seed(seed);
            for (int m = 1; m <= 30; m++) {
                wash.weeks(m);
                for (int i = 0; i < m; i++) {
                    x = next(x);
                }
                Check.due("the seed behind weeks(" + m + ")", wash.seed(x), x);
            }
        }
    }

    private static int figure(long seed) {
        BigInteger x = BigInteger.valueOf(next(seed)).mod(BigInteger.TWO.pow(64));
        return x.shiftRight(33).mod(BigInteger.TEN).intValueExact();
    }

    private static void weeksUpperBits() {
        Check.sentence("3: WEEKS: its upper 31 bits by 10, what is left: 0 to 4 that FLAG is SENT");
        int[] negatives = new int[10];
        int[] others = new int[10];
        for (long seed = -150; seed <= 150; seed++) {
            int figure = figure(seed);
            int[] found = next(seed) < 0 ? negatives : others;
            found[figure]++;
            for (int flag = 0; flag < 4; flag++) {
                FlagWash wash = Check.laundry("U110Fa01Fa01Fa01Fa01Fa01H" + flag + "4");
                wash.seed(seed);
                boolean isSent = figure == flag || figure == 4;
                Check.due("weeks(1) of seed " + seed, wash.weeks(1), isSent ? 0 : 1);
            }
        }
        for (int figure = 0; figure < 10; figure++) {
            Check.dueTrue("each figure came", negatives[figure] > 0 && others[figure] > 0);
        }
    }

    /** The least seed of 0 and more by which this figure comes first. */
    private static long seedFor(int figure) {
        long seed = 0;
        while (figure(seed) != figure) {
            seed++;
        }
        return seed;
    }

    private static int weekOf(FlagWash wash, int figure) {
        wash.seed(seedFor(figure));
        return wash.weeks(1);
    }

    private static void weeksIfItCanBe() {
        Check.sentence("3: WEEKS: that FLAG is SENT, if it can be");
        FlagWash two = Check.laundry("U110Fa01Fa01H01");
        for (int figure = 0; figure <= 4; figure++) {
            Check.due("a week of " + figure + ", two flags", weekOf(two, figure), figure <= 1 ? 0 : 1);
        }
        FlagWash full = Check.laundry("U110Fa04Fa01Fa01H12");
        full.send(0);
        for (int figure = 0; figure <= 4; figure++) {
            Check.due("a week of " + figure + ", no tub is free", weekOf(full, figure), 1);
        }
        FlagWash none = new FlagWash();
        for (int figure = 0; figure <= 9; figure++) {
            Check.due("a week of " + figure + ", no flags", weekOf(none, figure), 0);
        }
    }

    private static void weeksWinds() {
        Check.sentence("3: WEEKS: 5 and more AN HOUR with a WIND of what is left of it by 3");
        int[] winds = {2, 0, 1, 2, 0};
        for (int now = 0; now <= 2; now++) {
            for (int wet = 1; wet <= 6; wet++) {
                FlagWash wash = Check.laundry("U110Fa11Fa01H01");
                wash.send(0);
                wash.hour();
                for (int i = 6; i > wet; i--) {
                    wash.hour();
                }
                wash.wind(now);
                for (int figure = 0; figure <= 9; figure++) {
                    boolean isHome = figure >= 5 && 1 + winds[figure - 5] >= wet;
                    Check.due("a week of " + figure + ", wet " + wet, weekOf(wash, figure), isHome ? 1 : 0);
                }
            }
        }
    }

    private static void nothingIsChanged() {
        Check.sentence("3: (Nothing changes but THE SEED.)");
        for (int m : new int[] {1, 30}) {
            Twins.changesNothing("weeks(" + m + ")", ChancesBoundsTest::busy, w -> {
                w.seed(5);
                long answer = w.weeks(m);
                w.seed(77);
                return answer;
            });
        }
        Twins.changesNothing("share(0, true)", ChancesBoundsTest::busy, w -> w.share(0, true));
        Twins.changesNothing("rests(0, 1, 0)", ChancesBoundsTest::busy, w -> w.rests(0, 1, 0));
        Twins.changesNothing("dry(0, 6, 5, true)", ChancesBoundsTest::busy, w -> w.dry(0, 6, 5, true));
    }
}
