/** Edges of promises 18 to 20, one test for each sentence of the document that names one. */
public final class SeenBoundsTest {
    private static final int[] NO_FLAGS_OF_THREE =
            {-1, 3, 4, 5, 31, 32, 33, -32, Integer.MIN_VALUE, Integer.MAX_VALUE};
    private static final int[] NO_COLOURS = {-1, 16, 31, 256, Integer.MIN_VALUE, Integer.MAX_VALUE};

    public static void main(String[] args) {
        seeUnknown();
        seeColours();
        seeWith();
        seeWithItself();
        seeSix();
        seeOrderOfRefusals();
        noneAtFirst();
        unseeEmptyAndFull();
        hadUnknown();
        hadWhats();
        hadOneAndAll();
        hadNone();
        hadOfItsOwnAlone();
        hadOthersAsNow();
        hadFlagsThatAreGone();
        hadChangesNothing();
        Check.end();
    }

    private static void busy(FlagWash wash) {
        Check.makeAnew(wash, "U211Fb02Fe33Fa21H01H21");
        wash.keep(1);
        wash.send(0);
        wash.send(1);
        wash.hour();
        wash.see(0, 5, 2);
        wash.see(2, 1, 1);
        wash.seed(77);
    }

    private static void full(FlagWash wash) {
        busy(wash);
        for (int i = 3; i <= 6; i++) {
            Check.due("see(1, 15, 0)", wash.see(1, 15, 0), i);
        }
    }

    private static void seeUnknown() {
        Check.sentence("18: UNKNOWN");
        for (int flag : NO_FLAGS_OF_THREE) {
            Twins.refused("see(" + flag + ", 0, 0)", SeenBoundsTest::busy, w -> w.see(flag, 0, 0), FlagWash.UNKNOWN);
        }
        Check.due("see(2, 0, 0)", Check.laundry("U110Fa01Fa01Fa01").see(2, 0, 0), 1);
        Check.due("see(4, 0, 0)", Check.laundry("U110Fa01Fa01Fa01Fa01Fa01").see(4, 0, 0), 1);
    }

    private static void seeColours() {
        Check.sentence("18: OUTSIDE: colours");
        for (int colours : NO_COLOURS) {
            Twins.refused("see(0, " + colours + ", 0)", SeenBoundsTest::busy, w -> w.see(0, colours, 0),
                    FlagWash.OUTSIDE);
        }
        for (int colours = 0; colours <= 15; colours++) {
            FlagWash wash = Check.laundry("U110Fa01");
            Check.due("see(0, " + colours + ", 0)", wash.see(0, colours, 0), 1);
            dueHad(wash, 0, 1, colours, 15 - colours);
        }
    }

    private static void seeWith() {
        Check.sentence("18: OUTSIDE: with (0 to 31, without it)");
        int[] outside = {-1, -2, 32, 34, 62, 64, Integer.MIN_VALUE, Integer.MIN_VALUE + 2, Integer.MAX_VALUE - 1,
            Integer.MAX_VALUE};
        for (int with : outside) {
            Twins.refused("see(0, 5, " + with + ")", SeenBoundsTest::busy, w -> w.see(0, 5, with), FlagWash.OUTSIDE);
        }
        for (int with = 0; with <= 31; with++) {
            for (int flag = 0; flag < 5; flag++) {
                FlagWash wash = Check.laundry("U110Fa01Fa01Fa01Fa01Fa01");
                boolean isIn = (with >> flag & 1) == 1;
                Check.due("see(" + flag + ", 0, " + with + ")", wash.see(flag, 0, with),
                        isIn ? FlagWash.OUTSIDE : 1);
            }
        }
    }

    private static void seeWithItself() {
        Check.sentence("18: with (.. without it)");
        for (int flag = 0; flag < 3; flag++) {
            int one = flag;
            for (int with : new int[] {1 << flag, 31, 7}) {
                Twins.refused("see(" + flag + ", 5, " + with + ")", SeenBoundsTest::busy, w -> w.see(one, 5, with),
                        FlagWash.OUTSIDE);
            }
            FlagWash wash = new FlagWash();
            busy(wash);
            Check.due("see(" + flag + ", 15, the others)", wash.see(flag, 15, 31 - (1 << flag)), 3);
        }
    }

    private static void seeSix() {
        Check.sentence("3: SEEN: 6 such at most; 18: FULL: 6");
        FlagWash wash = Check.laundry("U110Fb01Fc01");
        for (int i = 1; i <= 6; i++) {
            Check.due("see(0, 3, 2)", wash.see(0, 3, 2), i);
            Check.due("count(9)", wash.count(9), i);
        }
        Check.due("see(0, 3, 2), the seventh", wash.see(0, 3, 2), FlagWash.FULL);
        Twins.refused("see(0, 0, 0)", SeenBoundsTest::full, w -> w.see(0, 0, 0), FlagWash.FULL);
        Twins.refused("see(2, 15, 27)", SeenBoundsTest::full, w -> w.see(2, 15, 27), FlagWash.FULL);
        // The sixth is looked at like the others.
        FlagWash last = Check.laundry("U110Fb01Fc01");
        for (int i = 0; i < 5; i++) {
            last.see(1, 2, 0);
        }
        last.see(0, 9, 0);
        dueHad(last, 0, 1, 9, 6);
        // All are counted, also of flags that are gone.
        Check.makeAnew(last, "U110Fb01");
        Check.due("count(9)", last.count(9), 6);
        Check.due("see(0, 9, 0)", last.see(0, 9, 0), FlagWash.FULL);
    }

    private static void seeOrderOfRefusals() {
        Check.sentence("REFUSALS, of several the first that a call names: 18: UNKNOWN; OUTSIDE; FULL");
        Twins.refused("see(3, 16, 32)", SeenBoundsTest::full, w -> w.see(3, 16, 32), FlagWash.UNKNOWN);
        Twins.refused("see(-1, 0, 0)", SeenBoundsTest::full, w -> w.see(-1, 0, 0), FlagWash.UNKNOWN);
        Twins.refused("see(0, 16, 0)", SeenBoundsTest::full, w -> w.see(0, 16, 0), FlagWash.OUTSIDE);
        Twins.refused("see(0, 0, 1)", SeenBoundsTest::full, w -> w.see(0, 0, 1), FlagWash.OUTSIDE);
        Twins.refused("see(0, 0, 32)", SeenBoundsTest::full, w -> w.see(0, 0, 32), FlagWash.OUTSIDE);
        Twins.refused("see(3, 16, 0)", SeenBoundsTest::busy, w -> w.see(3, 16, 0), FlagWash.UNKNOWN);
    }

    private static void noneAtFirst() {
        Check.sentence("3: SEEN: none at first");
        Check.due("count(9)", new FlagWash().count(9), 0);
        FlagWash wash = Check.laundry("U110Fb01Fp01");
        Check.due("count(9)", wash.count(9), 0);
        dueHad(wash, 0, 16, 0, 0);
        dueHad(wash, 1, 16, 0, 0);
    }

    private static void unseeEmptyAndFull() {
        Check.sentence("19: Nothing is SEEN: how much there was");
        Twins.changesNothing("unsee() of nothing", w -> Check.makeAnew(w, "U110Fb01"), FlagWash::unsee);
        Check.due("unsee() of a new object", new FlagWash().unsee(), 0);
        FlagWash wash = new FlagWash();
        full(wash);
        Check.due("unsee() of six", wash.unsee(), 6);
        Check.due("count(9)", wash.count(9), 0);
        Check.due("unsee() once more", wash.unsee(), 0);
        for (int flag = 0; flag < 3; flag++) {
            dueHad(wash, flag, 16, 0, 0);
        }
        Check.due("see(0, 5, 2)", wash.see(0, 5, 2), 1);
        Check.due("unsee() of one", wash.unsee(), 1);
        Check.due("count(8), no act", wash.count(8), 3);
    }

    private static void hadUnknown() {
        Check.sentence("20: UNKNOWN; OUTSIDE");
        for (int flag : NO_FLAGS_OF_THREE) {
            for (int what : new int[] {-1, 0, 2, 3}) {
                Twins.refused("had(" + flag + ", " + what + ")", SeenBoundsTest::busy, w -> w.had(flag, what),
                        FlagWash.UNKNOWN);
            }
        }
    }

    private static void hadWhats() {
        Check.sentence("20: OUTSIDE");
        for (int what : new int[] {-1, 3, 32, Integer.MIN_VALUE, Integer.MAX_VALUE}) {
            Twins.refused("had(0, " + what + ")", SeenBoundsTest::busy, w -> w.had(0, what), FlagWash.OUTSIDE);
        }
    }

    private static void hadOneAndAll() {
        Check.sentence("3: HAD: sets of COLOURS (0 to 15): how many; COLOURS in all; in none");
        FlagWash wash = Check.laundry("U110Fa01Fp01Fh01");
        Check.due("see(0, 15, 2)", wash.see(0, 15, 2), 1);
        dueHad(wash, 0, 16, 0, 0);
        Check.due("see(0, 15, 4)", wash.see(0, 15, 4), 2);
        dueHad(wash, 0, 8, 8, 0);
        Check.due("see(0, 15, 0)", wash.see(0, 15, 0), 3);
        dueHad(wash, 0, 1, 15, 0);
        FlagWash none = Check.laundry("U110Fp01Fa01");
        Check.due("see(0, 0, 2)", none.see(0, 0, 2), 1);
        dueHad(none, 0, 1, 0, 15);
    }

    private static void hadNone() {
        Check.sentence("3: HAD: NONE (of the latter two): there are none");
        FlagWash wash = Check.laundry("U110Fa01Fp01");
        wash.see(0, 14, 2);
        dueHad(wash, 0, 0, FlagWash.NONE, FlagWash.NONE);
        wash.unsee();
        wash.see(0, 0, 0);
        dueHad(wash, 0, 1, 0, 15);
        wash.see(0, 1, 0);
        dueHad(wash, 0, 0, FlagWash.NONE, FlagWash.NONE);
    }

    private static void hadOfItsOwnAlone() {
        Check.sentence("3: HAD: so that all that is SEEN of it is so");
        FlagWash wash = Check.laundry("U110Fa01Fb01Fc01Fd01Fe01");
        wash.see(4, 3, 0);
        for (int flag = 0; flag < 4; flag++) {
            dueHad(wash, flag, 16, 0, 0);
        }
        // What it has now is not asked.
        dueHad(wash, 4, 1, 3, 12);
    }

    private static void hadOthersAsNow() {
        Check.sentence("3: HAD: (COLOURS of others as now)");
        FlagWash wash = Check.laundry("U310Fb01Fc01Fe31");
        wash.see(0, 6, 2);
        dueHad(wash, 0, 2, 4, 9);
        wash.send(1);
        wash.send(2);
        dueHad(wash, 0, 2, 4, 9);
        wash.hour();
        dueHad(wash, 0, 4, 0, 9);
        Check.due("laundry()", wash.laundry(), 3);
        dueHad(wash, 0, 2, 4, 9);
        Check.makeAnew(wash, "U310Fb01Fi01Fe31");
        dueHad(wash, 0, 0, FlagWash.NONE, FlagWash.NONE);
    }

    private static void hadFlagsThatAreGone() {
        Check.sentence("3: SEEN: with FLAGS that there are not any more nothing is looked at");
        FlagWash wash = Check.laundry("U110Fa01Fb01Fc01Fe01Fi01");
        wash.see(0, 15, 30);
        wash.see(0, 8, 0);
        dueHad(wash, 0, 1, 8, 7);
        wash.unsee();
        wash.see(0, 15, 16);
        wash.see(4, 9, 0);
        dueHad(wash, 0, 2, 7, 0);
        Check.makeAnew(wash, "U110Fa01Fb01Fc01Fe01");
        dueHad(wash, 0, 16, 0, 0);
        Check.due("had(4, 0)", wash.had(4, 0), FlagWash.UNKNOWN);
        Check.due("count(9), they stay", wash.count(9), 2);
        Check.makeAnew(wash, "U110");
        Check.due("had(0, 0)", wash.had(0, 0), FlagWash.UNKNOWN);
        Check.makeAnew(wash, "U110Fa01Fb01Fc01Fe01Fi01");
        dueHad(wash, 0, 2, 7, 0);
        dueHad(wash, 4, 1, 9, 6);
        // The last flag that there is, and the first that there is not.
        FlagWash three = Check.laundry("U110Fa01Fb01Fc01");
        three.see(0, 3, 4);
        dueHad(three, 0, 2, 1, 12);
        three.unsee();
        three.see(0, 3, 8);
        dueHad(three, 0, 16, 0, 0);
    }

    private static void hadChangesNothing() {
        Check.sentence("What is asked changes nothing: 20");
        for (int what = 0; what <= 2; what++) {
            int asked = what;
            Twins.changesNothing("had(0, " + what + ")", SeenBoundsTest::busy, w -> w.had(0, asked));
        }
    }

    private static void dueHad(FlagWash wash, int flag, int howMany, int inAll, int inNone) {
        Check.due("had(" + flag + ", 0)", wash.had(flag, 0), howMany);
        Check.due("had(" + flag + ", 1)", wash.had(flag, 1), inAll);
        Check.due("had(" + flag + ", 2)", wash.had(flag, 2), inNone);
    }
}
