/** Promises 21 to 25: share, rests, dry, seed, weeks. */
public final class ChancesTest {
    public static void main(String[] args) {
        promise21Share();
        promise22Rests();
        promise23Dry();
        promise23Refusals();
        promise24Seed();
        promise25Weeks();
        promise25SendsAndWinds();
        Check.end();
    }

    private static void promise21Share() {
        FlagWash wash = Check.laundry("U110Fa01Fa01Fa01Fa01H01H12");
        dueShare(wash, 4, FlagWash.UNKNOWN, FlagWash.UNKNOWN);
        dueShare(wash, -1, FlagWash.UNKNOWN, FlagWash.UNKNOWN);
        // A path 0 - 1 - 2: the middle one brings 3 as the first, 2 as the second, nothing as the last.
        dueShare(wash, 0, 2, 3);
        dueShare(wash, 1, 5, 3);
        dueShare(wash, 2, 2, 3);
        // One without foes was in peace already.
        dueShare(wash, 3, 0, 1);
        // Where the flags are now is not asked.
        wash.send(1);
        dueShare(wash, 0, 2, 3);
        dueShare(wash, 1, 5, 3);
        FlagWash all = Check.laundry("U110Fa01Fa01Fa01Fa01Fa01H01H02H03H04H12H13H14H23");
        int together = 0;
        for (int flag = 0; flag < 5; flag++) {
            together += all.share(flag, true) * (120 / all.share(flag, false));
        }
        Check.due("the shares together, in 120ths", together, 600);
        FlagWash one = Check.laundry("U110Fa01");
        dueShare(one, 0, 0, 1);
    }

    private static void dueShare(FlagWash wash, int flag, int above, int below) {
        Check.due("share(" + flag + ", true)", wash.share(flag, true), above);
        Check.due("share(" + flag + ", false)", wash.share(flag, false), below);
    }

    private static void promise22Rests() {
        FlagWash wash = Check.laundry("U110Fa01Fa04Fa02H01");
        Check.due("rests(3, 0, 0)", wash.rests(3, 0, 0), FlagWash.UNKNOWN);
        Check.due("rests(0, 3, 0)", wash.rests(0, 3, 0), FlagWash.UNKNOWN);
        Check.due("rests(3, 3, 2)", wash.rests(3, 3, 2), FlagWash.UNKNOWN);
        Check.due("rests(-1, 0, 0)", wash.rests(-1, 0, 0), FlagWash.UNKNOWN);
        Check.due("rests(1, 1, 0)", wash.rests(1, 1, 0), FlagWash.OUTSIDE);
        Check.due("rests(0, 1, 2)", wash.rests(0, 1, 2), FlagWash.OUTSIDE);
        Check.due("rests(0, 1, -1)", wash.rests(0, 1, -1), FlagWash.OUTSIDE);
        Check.due("rests(0, 1, 0)", wash.rests(0, 1, 0), 2);
        Check.due("rests(0, 1, 1)", wash.rests(0, 1, 1), 1);
        Check.due("rests(1, 0, 0)", wash.rests(1, 0, 0), 2);
        Check.due("rests(1, 0, 1)", wash.rests(1, 0, 1), 1);
        Check.due("rests(0, 2, 0)", wash.rests(0, 2, 0), 1);
        Check.due("rests(2, 0, 1)", wash.rests(2, 0, 1), 11);
    }

    private static void promise23Dry() {
        FlagWash wool = onLine("U110Fa11");
        dueDry(wool, 1, 10, 0, 1);
        dueDry(wool, 2, 10, 1, 1);
        dueDry(wool, 2, 0, 0, 1);
        dueDry(wool, 2, 5, 1, 4);
        dueDry(wool, 5, 0, 0, 1);
        dueDry(wool, 6, 0, 1, 1);
        dueDry(wool, 6, 7, 1, 1);
        // 4 hours: at least one of them with a wind; 3: at least two.
        dueDry(wool, 4, 1, 3439, 10000);
        dueDry(wool, 3, 1, 7, 250);
        FlagWash silk = onLine("U112Fa21");
        dueDry(silk, 1, 4, 2, 5);
        dueDry(silk, 2, 0, 1, 1);
        FlagWash cotton = onLine("U110Fa01");
        dueDry(cotton, 1, 10, 0, 1);
        dueDry(cotton, 2, 9, 99, 100);
        dueDry(cotton, 3, 4, 98, 125);
        cotton.hour();
        dueDry(cotton, 1, 10, 1, 1);
        dueDry(cotton, 2, 2, 9, 25);
    }

    private static FlagWash onLine(String text) {
        FlagWash wash = Check.laundry(text);
        wash.send(0);
        wash.hour();
        return wash;
    }

    private static void dueDry(FlagWash wash, int n, int x, int above, int below) {
        Check.due("dry(0, " + n + ", " + x + ", true)", wash.dry(0, n, x, true), above);
        Check.due("dry(0, " + n + ", " + x + ", false)", wash.dry(0, n, x, false), below);
    }

    private static void promise23Refusals() {
        FlagWash wash = Check.laundry("U110Fa01");
        for (int i = 0; i < 2; i++) {
            boolean upper = i == 0;
            Check.due("dry(1, 0, 0)", wash.dry(1, 0, 0, upper), FlagWash.UNKNOWN);
            Check.due("dry(0, 0, 0)", wash.dry(0, 0, 0, upper), FlagWash.OUTSIDE);
            Check.due("dry(0, 7, 0)", wash.dry(0, 7, 0, upper), FlagWash.OUTSIDE);
            Check.due("dry(0, 1, -1)", wash.dry(0, 1, -1, upper), FlagWash.OUTSIDE);
            Check.due("dry(0, 1, 11)", wash.dry(0, 1, 11, upper), FlagWash.OUTSIDE);
            Check.due("dry(0, 1, 0), at home", wash.dry(0, 1, 0, upper), FlagWash.STATE);
        }
        wash.send(0);
        Check.due("dry(0, 1, 0), in a tub", wash.dry(0, 1, 0, true), FlagWash.STATE);
        wash.hour();
        Check.due("dry(0, 1, 0)", wash.dry(0, 1, 0, true), 0);
    }

    private static void promise24Seed() {
        FlagWash wash = new FlagWash();
        Check.due("seed(5)", wash.seed(5), 0);
        Check.due("seed(least)", wash.seed(Long.MIN_VALUE), 5);
        Check.due("seed(greatest)", wash.seed(Long.MAX_VALUE), Long.MIN_VALUE);
        Check.due("seed(0)", wash.seed(0), Long.MAX_VALUE);
    }

    private static void promise25Weeks() {
        FlagWash wash = Check.laundry("U110Fa01Fa01H01");
        Check.due("weeks(0)", wash.weeks(0), FlagWash.OUTSIDE);
        Check.due("weeks(31)", wash.weeks(31), FlagWash.OUTSIDE);
        Check.due("weeks(-1)", wash.weeks(-1), FlagWash.OUTSIDE);
        Check.due("seed(0)", wash.seed(0), 0);
        // The first x is 1442695040888963407: its upper 31 bits are 167953872, so flag 2, that is not there, is sent.
        Check.due("weeks(1)", wash.weeks(1), 1);
        Check.due("seed(0)", wash.seed(0), 1442695040888963407L);
        Check.due("weeks(1) for friends", Check.laundry("U110Fa01Fa01").weeks(30), 0);
        long x = 987654321L;
        wash.seed(x);
        wash.weeks(30);
        for (int i = 0; i < 30; i++) {
            x = x * 6364136223846793005L + 1442695040888963407L;
        }
        Check.due("seed after 30", wash.seed(0), x);
    }

    private static void promise25SendsAndWinds() {
        for (long seed = -100; seed < 100; seed++) {
            long x = seed * 6364136223846793005L + 1442695040888963407L;
            int figure = (int) ((x >>> 33) % 10);
            FlagWash home = Check.laundry("U110Fa01Fa01Fa01H12");
            dueWeek(home, seed, figure != 1 && figure != 2);
            // Silk on the line is 2 wet: a wind of 1 (by 7) or of 2 (by 5, 8) brings it home.
            dueWeek(onLine("U110Fa21Fa01H01"), seed, figure == 5 || figure == 7 || figure == 8);
            // Wool is 3 wet an hour later: only a wind of 2 brings it home.
            FlagWash wool = onLine("U112Fa11Fa01H01");
            wool.hour();
            dueWeek(wool, seed, figure == 5 || figure == 8);
        }
    }

    private static void dueWeek(FlagWash wash, long seed, boolean fight) {
        wash.seed(seed);
        Check.due("weeks(1) of seed " + seed, wash.weeks(1), fight ? 1 : 0);
    }
}
