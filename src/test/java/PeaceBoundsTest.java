/** Edges of promises 12 to 17, one test for each sentence of the document that names one. */
public final class PeaceBoundsTest {
    private static final String FOES = "U110Fa01Fa01Fa01Fa01Fa01H01H02H03H04H12H13H14H23";
    private static final int[] NO_FLAGS_OF_THREE =
            {-1, 3, 4, 5, 31, 32, 33, -32, Integer.MIN_VALUE, Integer.MAX_VALUE};

    public static void main(String[] args) {
        peaceUnknown();
        peaceBothAreOne();
        peaceAtOnceAndLongest();
        peaceNotHostile();
        quietAtOnceAndLongest();
        quietNone();
        sendingWithoutTubs();
        sendingAllThatCan();
        sendingFewestThenLeast();
        sendingNone();
        coverEmptyAndFull();
        coverOfLikeOnes();
        coverOnlyAtHome();
        ranColours();
        ranUnknown();
        ranNoneAndAll();
        ranOfLikeOnes();
        judgeHowMany();
        judgeRows();
        judgeFigures();
        judgePlaces();
        nothingIsChanged();
        Check.end();
    }

    private static void peaceUnknown() {
        Check.sentence("12: UNKNOWN: both; OUTSIDE: both are one");
        for (int flag : NO_FLAGS_OF_THREE) {
            Twins.refused("peace(" + flag + ", 0)", PeaceBoundsTest::busy, w -> w.peace(flag, 0), FlagWash.UNKNOWN);
            Twins.refused("peace(0, " + flag + ")", PeaceBoundsTest::busy, w -> w.peace(0, flag), FlagWash.UNKNOWN);
            Twins.refused("peace(.., " + flag + ")", PeaceBoundsTest::busy, w -> w.peace(flag, flag),
                    FlagWash.UNKNOWN);
        }
    }

    private static void busy(FlagWash wash) {
        Check.makeAnew(wash, "U211Fb02Fe33Fa21H01H21");
        wash.keep(1);
        wash.send(0);
        wash.send(1);
        wash.hour();
        wash.wind(0);
        wash.see(0, 5, 2);
        wash.seed(77);
    }

    private static void peaceBothAreOne() {
        Check.sentence("12: OUTSIDE: both are one");
        for (int flag = 0; flag < 3; flag++) {
            int one = flag;
            Twins.refused("peace of one", PeaceBoundsTest::busy, w -> w.peace(one, one), FlagWash.OUTSIDE);
        }
    }

    /** One wool flag is on the one peg since now, three more can follow it. */
    private static FlagWash fullWash(String foes) {
        FlagWash wash = Check.laundry("U310Fa11Fa14Fa14Fa14Fa11" + foes);
        wash.send(0);
        wash.hour();
        return wash;
    }

    private static void peaceAtOnceAndLongest() {
        Check.sentence("2: PEACE: in how many HOURS (0 to 40) they MAY fight first");
        FlagWash wash = fullWash("H04H14H24H34");
        Check.due("peace(3, 4), at once", wash.peace(3, 4), 0);
        for (int flag = 1; flag <= 3; flag++) {
            wash.send(flag);
        }
        for (int flag = 0; flag <= 3; flag++) {
            Check.due("peace(" + flag + ", 4)", wash.peace(flag, 4), 6 * (flag + 1));
            Check.due("peace(4, " + flag + ")", wash.peace(4, flag), 6 * (flag + 1));
        }
        for (int left = 23; left >= 0; left--) {
            wash.hour();
            Check.due("peace(3, 4)", wash.peace(3, 4), left);
        }
        wash.hour();
        Check.due("peace(3, 4)", wash.peace(3, 4), 0);
    }

    private static void peaceNotHostile() {
        Check.sentence("2: PEACE: NONE: they are not HOSTILE");
        FlagWash wash = Check.laundry(FOES);
        int[] foes = {30, 29, 11, 7, 3};
        for (int flag = 0; flag < 5; flag++) {
            for (int other = 0; other < 5; other++) {
                if (flag != other) {
                    Check.due("peace(" + flag + ", " + other + ")", wash.peace(flag, other),
                            (foes[flag] >> other & 1) == 1 ? 0 : FlagWash.NONE);
                }
            }
        }
    }

    private static void quietAtOnceAndLongest() {
        Check.sentence("2: QUIET: in how many HOURS (0 to 40) two first MAY fight");
        FlagWash wash = fullWash("H34");
        Check.due("quiet(), at once", wash.quiet(), 0);
        for (int flag = 1; flag <= 3; flag++) {
            wash.send(flag);
        }
        for (int left = 24; left >= 0; left--) {
            Check.due("quiet()", wash.quiet(), left);
            wash.hour();
        }
        Check.due("quiet()", wash.quiet(), 0);
    }

    private static void quietNone() {
        Check.sentence("2: QUIET: NONE: not in 40");
        for (String text : new String[] {"U110", "U110Fa01", "U110Fa01Fa01Fa01Fa01Fa01"}) {
            FlagWash wash = Check.laundry(text);
            Check.due("quiet() of " + text, wash.quiet(), FlagWash.NONE);
            wash.send(0);
            Check.due("quiet() of " + text, wash.quiet(), FlagWash.NONE);
        }
    }

    private static void sendingWithoutTubs() {
        Check.sentence("2: SEND: the FLAGS that can all be SENT now: no tub is free");
        FlagWash wash = Check.laundry("U110Fa04Fa04Fa04H12");
        wash.send(0);
        Check.due("sending(false)", wash.sending(false), 0);
        Check.due("sending(true)", wash.sending(true), 0);
        for (int i = 0; i < 3; i++) {
            wash.hour();
            Check.due("sending(false)", wash.sending(false), 0);
        }
        wash.hour();
        Check.due("sending(false), the tub is free", wash.sending(false), 2);
        // The peg is free as soon as it is washed.
        Check.due("sending(true)", wash.sending(true), 8);
    }

    private static void sendingAllThatCan() {
        Check.sentence("2: SEND: by which, SENT, QUIET is greatest: as many as there are TUBS");
        FlagWash wash = fullWash("H34");
        Check.due("sending(false)", wash.sending(false), 14);
        Check.due("sending(true)", wash.sending(true), 24);
        FlagWash one = Check.laundry("U140Fa01Fa01Fa01H01H12H02");
        Check.due("sending(false), one tub is too few", one.sending(false), 0);
        Check.due("sending(true)", one.sending(true), 0);
        FlagWash two = Check.laundry("U240Fa01Fa01Fa01H01H12H02");
        Check.due("sending(false), two tubs are enough", two.sending(false), 3);
        Check.due("sending(true)", two.sending(true), 5);
        FlagWash last = Check.laundry("U240Fa01Fa01Fa01Fa11Fa11H30H31H32H40H41H42H34");
        Check.due("sending(false), the last two", last.sending(false), 24);
        Check.due("sending(true)", last.sending(true), 7);
    }

    private static void sendingFewestThenLeast() {
        Check.sentence("2: SEND: of like ones the fewest, then the least");
        FlagWash fewest = Check.laundry("U340Fa01Fa01Fa01Fa01H30H31H32");
        Check.due("sending(false), 8 ahead of 7", fewest.sending(false), 8);
        Check.due("sending(true)", fewest.sending(true), 5);
        FlagWash least = Check.laundry("U340Fa01Fa01Fa01Fa01H32");
        Check.due("sending(false), 4 ahead of 8", least.sending(false), 4);
        FlagWash longer = Check.laundry("U340Fa01Fa01Fa01Fa02H32");
        Check.due("sending(false), the longer one", longer.sending(false), 8);
        Check.due("sending(true)", longer.sending(true), 6);
    }

    private static void sendingNone() {
        Check.sentence("2: SEND: NONE is greater than any; 14: QUIET then (NONE)");
        FlagWash friends = Check.laundry("U340Fa01Fa01Fa01Fa01Fa01");
        Check.due("sending(false)", friends.sending(false), 0);
        Check.due("sending(true)", friends.sending(true), FlagWash.NONE);
        FlagWash empty = Check.laundry("U340");
        Check.due("sending(false)", empty.sending(false), 0);
        Check.due("sending(true)", empty.sending(true), FlagWash.NONE);
    }

    private static void coverEmptyAndFull() {
        Check.sentence("2: COVER: the fewest FLAGS by which, if they were not, none MAY fight");
        Check.due("cover() without flags", Check.laundry("U110").cover(), 0);
        Check.due("cover() of friends", Check.laundry("U110Fa01Fa01").cover(), 0);
        Check.due("cover() of eight pairs", Check.laundry(FOES).cover(), 7);
        Check.due("cover() of four that are all foes",
                Check.laundry("U110Fa01Fa01Fa01Fa01H01H02H03H12H13H23").cover(), 7);
        Check.due("cover() of one for all", Check.laundry("U110Fa01Fa01Fa01Fa01Fa01H40H41H42H43").cover(), 16);
    }

    private static void coverOfLikeOnes() {
        Check.sentence("2: COVER: of like ones the least");
        Check.due("cover()", Check.laundry("U110Fa01Fa01H10").cover(), 1);
        Check.due("cover()", Check.laundry("U110Fa01Fa01Fa01Fa01Fa01H43").cover(), 8);
        Check.due("cover()", Check.laundry("U110Fa01Fa01Fa01Fa01H01H12H23H30").cover(), 5);
    }

    private static void coverOnlyAtHome() {
        Check.sentence("2: COVER: FLAGS that are at HOME");
        FlagWash wash = Check.laundry("U340Fa11Fa11Fa11Fa11Fa11H40H41H42H43");
        wash.send(4);
        Check.due("cover(), in a tub", wash.cover(), 0);
        wash.hour();
        Check.due("cover(), on the line", wash.cover(), 0);
        wash.pull(4);
        wash.send(0);
        wash.send(1);
        wash.send(2);
        Check.due("cover(), one pair is left", wash.cover(), 8);
    }

    private static void ranColours() {
        Check.sentence("16: COLOURS m (0 to 15); OUTSIDE: colours");
        for (int colours : new int[] {-1, 16, 31, 256, Integer.MIN_VALUE, Integer.MAX_VALUE}) {
            Twins.refused("ran(0, " + colours + ")", PeaceBoundsTest::busy, w -> w.ran(0, colours), FlagWash.OUTSIDE);
        }
        Check.due("ran(0, 0)", Check.laundry("U110Fa01").ran(0, 0), 0);
        Check.due("ran(0, 15)", Check.laundry("U110Fp01").ran(0, 15), 0);
    }

    private static void ranUnknown() {
        Check.sentence("16: UNKNOWN; OUTSIDE: colours");
        for (int flag : NO_FLAGS_OF_THREE) {
            for (int colours : new int[] {-1, 0, 15, 16}) {
                Twins.refused("ran(" + flag + ", " + colours + ")", PeaceBoundsTest::busy,
                        w -> w.ran(flag, colours), FlagWash.UNKNOWN);
            }
        }
    }

    private static void ranNoneAndAll() {
        Check.sentence("2: RAN: the fewest others whose COLOURS now, and its own, are just m together; NONE");
        FlagWash wash = Check.laundry("U110Fa01Fb01Fc01Fe01Fi01");
        for (int colours = 0; colours <= 15; colours++) {
            Check.due("ran(0, " + colours + ")", wash.ran(0, colours), colours * 2);
            boolean isIn = (colours & 8) != 0;
            Check.due("ran(4, " + colours + ")", wash.ran(4, colours), isIn ? (colours & 7) * 2 : FlagWash.NONE);
        }
        FlagWash alone = Check.laundry("U110Fb01");
        for (int colours = 0; colours <= 15; colours++) {
            Check.due("ran(0, " + colours + "), alone", alone.ran(0, colours), colours == 1 ? 0 : FlagWash.NONE);
        }
        // One that has more than m does not fit.
        Check.due("ran(0, 3)", Check.laundry("U110Fb01Fh01").ran(0, 3), FlagWash.NONE);
    }

    private static void ranOfLikeOnes() {
        Check.sentence("2: RAN: the fewest (bits; of like ones the least)");
        Check.due("ran(0, 3), one ahead of two", Check.laundry("U110Fa01Fb01Fc01Fd01").ran(0, 3), 8);
        Check.due("ran(0, 3), the least", Check.laundry("U110Fa01Fd01Fd01").ran(0, 3), 2);
        Check.due("ran(2, 3), the least", Check.laundry("U110Fd01Fd01Fa01").ran(2, 3), 1);
        Check.due("ran(0, 1), itself is enough", Check.laundry("U110Fb01Fb01").ran(0, 1), 0);
    }

    private static void judgeHowMany() {
        Check.sentence("17: n doings (1 to 6); OUTSIDE: n");
        for (int n : new int[] {0, -1, 7, 32, Integer.MIN_VALUE, Integer.MAX_VALUE}) {
            Twins.refused("judge(" + n + ", 0)", PeaceBoundsTest::busy, w -> w.judge(n, 0), FlagWash.OUTSIDE);
        }
        Check.due("judge(1, 0)", new FlagWash().judge(1, 0), FlagWash.NONE);
        Check.due("judge(6, 0)", new FlagWash().judge(6, 0), FlagWash.NONE);
    }

    private static void judgeRows() {
        Check.sentence("17: OUTSIDE: row (0 or more, n figures at most)");
        int power = 1;
        for (int i = 1; i <= 6; i++) {
            int n = i;
            power *= 10;
            Check.due("judge(" + n + ", " + (power - 1) + ")", new FlagWash().judge(n, power - 1), 0);
            for (int row : new int[] {power, power * 10, -1, Integer.MIN_VALUE, Integer.MAX_VALUE}) {
                Twins.refused("judge(" + n + ", " + row + ")", PeaceBoundsTest::busy, w -> w.judge(n, row),
                        FlagWash.OUTSIDE);
            }
        }
    }

    private static void judgeFigures() {
        Check.sentence("2: 0 AN HOUR, 1 to 5 SENT that FLAG less 1, 6 to 9 PULLED that FLAG less 6");
        FlagWash five = Check.laundry("U340Fa04Fa04Fa04Fa04Fa04");
        for (int figure = 0; figure <= 9; figure++) {
            Check.due("judge(1, " + figure + "), all at home", five.judge(1, figure), figure <= 5 ? FlagWash.NONE : 0);
        }
        for (int flag = 0; flag < 4; flag++) {
            for (int figure = 1; figure <= 9; figure++) {
                int row = (flag + 1) * 10 + figure;
                boolean can = figure <= 5 ? figure != flag + 1 : figure == flag + 6;
                Check.due("judge(2, " + row + ")", five.judge(2, row), can ? FlagWash.NONE : 1);
            }
        }
        // There is no figure that pulls the fifth.
        for (int figure = 6; figure <= 9; figure++) {
            Check.due("judge(2, 5..)", five.judge(2, 50 + figure), 1);
        }
        FlagWash one = Check.laundry("U340Fa04");
        one.send(0);
        for (int figure = 0; figure <= 9; figure++) {
            boolean can = figure == 0 || figure == 6;
            Check.due("judge(1, " + figure + "), in its tub", one.judge(1, figure), can ? FlagWash.NONE : 0);
        }
    }

    private static void judgePlaces() {
        Check.sentence("2: JUDGED: the place of the first that can not be; NONE: none");
        FlagWash wash = Check.laundry("U110Fa21Fa21");
        Check.due("judge(6, 600000)", wash.judge(6, 600000), 0);
        Check.due("judge(6, 6)", wash.judge(6, 6), 5);
        Check.due("judge(6, 100000)", wash.judge(6, 100000), FlagWash.NONE);
        Check.due("judge(6, 116666)", wash.judge(6, 116666), 1);
        Check.due("judge(5, 10001), home in time", wash.judge(5, 10001), FlagWash.NONE);
        Check.due("judge(4, 1001), not home in time", wash.judge(4, 1001), 3);
        Check.due("judge(2, 12), no tub", wash.judge(2, 12), 1);
        Check.due("judge(3, 102), a tub", wash.judge(3, 102), FlagWash.NONE);
        Check.due("judge(6, 162727)", wash.judge(6, 162727), FlagWash.NONE);
    }

    private static void nothingIsChanged() {
        Check.sentence("2: In what follows nothing is changed");
        Twins.changesNothing("peace(0, 1)", PeaceBoundsTest::busy, w -> w.peace(0, 1));
        Twins.changesNothing("peace(0, 2)", PeaceBoundsTest::busy, w -> w.peace(0, 2));
        Twins.changesNothing("quiet()", PeaceBoundsTest::busy, FlagWash::quiet);
        Twins.changesNothing("sending(false)", PeaceBoundsTest::busy, w -> w.sending(false));
        Twins.changesNothing("sending(true)", PeaceBoundsTest::busy, w -> w.sending(true));
        Twins.changesNothing("cover()", PeaceBoundsTest::busy, FlagWash::cover);
        Twins.changesNothing("ran(0, 5)", PeaceBoundsTest::busy, w -> w.ran(0, 5));
        Twins.changesNothing("judge(6, 670123)", PeaceBoundsTest::busy, w -> w.judge(6, 670123));
        Twins.changesNothing("judge(6, 0)", PeaceBoundsTest::busy, w -> w.judge(6, 0));
    }
}
