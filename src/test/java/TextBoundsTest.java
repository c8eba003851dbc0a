/** Edges of promises 1 to 6, one test for each sentence of the document that names one. */
public final class TextBoundsTest {
    private static final String FIVE = "U110Fa01Fa01Fa01Fa01Fa01";
    private static final String FULL_TEXT = FIVE + "H01H02H03H04H12H13H14H23";

    public static void main(String[] args) {
        newObject();
        lettersOfAllNumbers();
        fortyEightLetters();
        outsideAheadOfFull();
        wipeEmptyAndFull();
        headLetters();
        partLetters();
        flagLetters();
        fiveFlagsAtMost();
        bothToldAhead();
        notOne();
        eachTwoOnce();
        lengthWhereNotAtItsEnd();
        whateverCameBehind();
        partsNoneOrMore();
        laundryRefused();
        laundryMadeAnew();
        laundryForgets();
        laundryOfFewerFlags();
        laundryLeaves();
        flagNumbers();
        flagWhats();
        flagAsToldAtItsEdges();
        Check.end();
    }

    private static void newObject() {
        Check.sentence("1: No flags. At first there is 1 TUB, 1 PEG, WIND 0, no FLAG");
        FlagWash wash = new FlagWash();
        Check.dueCounts("new", wash, 0, 0, 1, 1, 0, 0, 0, 0, 0, 0);
        for (int flag = -1; flag <= 5; flag++) {
            Check.due("flag(" + flag + ", 0)", wash.flag(flag, 0), FlagWash.UNKNOWN);
            Check.due("send(" + flag + ")", wash.send(flag), FlagWash.UNKNOWN);
            Check.due("pull(" + flag + ")", wash.pull(flag), FlagWash.UNKNOWN);
            Check.due("peace(" + flag + ", 0)", wash.peace(flag, 0), FlagWash.UNKNOWN);
            Check.due("ran(" + flag + ", 0)", wash.ran(flag, 0), FlagWash.UNKNOWN);
            Check.due("see(" + flag + ", 0, 0)", wash.see(flag, 0, 0), FlagWash.UNKNOWN);
            Check.due("had(" + flag + ", 0)", wash.had(flag, 0), FlagWash.UNKNOWN);
            Check.due("share(" + flag + ", true)", wash.share(flag, true), FlagWash.UNKNOWN);
            Check.due("rests(" + flag + ", 0, 0)", wash.rests(flag, 0, 0), FlagWash.UNKNOWN);
            Check.due("dry(" + flag + ", 1, 0, true)", wash.dry(flag, 1, 0, true), FlagWash.UNKNOWN);
        }
        Check.due("cover()", wash.cover(), 0);
        Check.due("sending(false)", wash.sending(false), 0);
        Check.due("sending(true)", wash.sending(true), FlagWash.NONE);
        Check.due("quiet()", wash.quiet(), FlagWash.NONE);
        Check.due("weeks(30)", wash.weeks(30), 0);
        Check.due("undo()", wash.undo(), FlagWash.STATE);
        Check.due("again(0)", wash.again(0), FlagWash.STATE);
    }

    private static void lettersOfAllNumbers() {
        Check.sentence("2: A letter (0 to 255) comes behind THE TEXT");
        int[] outside = {-1, 256, -256, 257, 256 + 'U', 'U' - 256, Integer.MIN_VALUE, Integer.MAX_VALUE};
        for (int letter : outside) {
            Twins.refused("write(" + letter + ")", w -> Check.write(w, "U11"), w -> w.write(letter), FlagWash.OUTSIDE);
        }
        for (int letter = 0; letter <= 255; letter++) {
            Check.due("write(" + letter + ")", new FlagWash().write(letter), 1);
        }
    }

    private static void fortyEightLetters() {
        Check.sentence("2: how long it is. FULL: there are 48");
        FlagWash wash = new FlagWash();
        Check.write(wash, FULL_TEXT);
        Check.due("count(0)", wash.count(0), 48);
        Check.due("fault() of 48 letters", wash.fault(), FlagWash.NONE);
        for (int letter : new int[] {'F', 'H', 0, 255}) {
            Twins.refused("write(" + letter + ")", w -> Check.write(w, FULL_TEXT), w -> w.write(letter),
                    FlagWash.FULL);
        }
        FlagWash other = new FlagWash();
        Check.write(other, FULL_TEXT.substring(0, 47));
        Check.due("write('3'), the 48th", other.write('3'), 48);
        Check.due("write('3'), the 49th", other.write('3'), FlagWash.FULL);
        Check.due("laundry() of 48 letters", other.laundry(), 5);
        Check.due("wipe()", other.wipe(), 48);
        Check.due("write('U') of the empty one", other.write('U'), 1);
    }

    private static void outsideAheadOfFull() {
        Check.sentence("REFUSALS, of several the first that a call names: 2: OUTSIDE; FULL");
        for (int letter : new int[] {-1, 256}) {
            Twins.refused("write(" + letter + ")", w -> Check.write(w, FULL_TEXT), w -> w.write(letter),
                    FlagWash.OUTSIDE);
        }
    }

    private static void wipeEmptyAndFull() {
        Check.sentence("3: THE TEXT is empty: how long it was");
        FlagWash wash = new FlagWash();
        Check.due("wipe() of the empty one", wash.wipe(), 0);
        wash.write('U');
        Check.due("wipe() of one letter", wash.wipe(), 1);
        Check.due("wipe() once more", wash.wipe(), 0);
        Check.makeAnew(wash, FULL_TEXT);
        Check.due("wipe() of the full one", wash.wipe(), 48);
        Check.dueCounts("wiped", wash, 0, 5, 1, 1, 0, 31, 8, 0, 0, 0);
        Check.due("fault() of the empty one", wash.fault(), 0);
        Check.due("laundry() of the empty one", wash.laundry(), FlagWash.STATE);
        Check.due("count(1)", wash.count(1), 5);
    }

    /** Each of the 256 letters behind a text: only these are no fault there. */
    private static void dueAllowed(String text, String allowed) {
        for (int letter = 0; letter <= 255; letter++) {
            FlagWash wash = new FlagWash();
            Check.write(wash, text);
            wash.write(letter);
            boolean isFault = wash.fault() == text.length();
            Check.due("a fault by letter " + letter + " behind '" + text + "'", isFault ? 1 : 0,
                    allowed.indexOf(letter) < 0 ? 1 : 0);
        }
    }

    private static void headLetters() {
        Check.sentence("1: U, TUBS (1 to 3), PEGS (1 to 4), WIND (0 to 2)");
        dueAllowed("", "U");
        dueAllowed("U", "123");
        dueAllowed("U3", "1234");
        dueAllowed("U34", "012");
        for (int tubs = 1; tubs <= 3; tubs++) {
            for (int pegs = 1; pegs <= 4; pegs++) {
                for (int wind = 0; wind <= 2; wind++) {
                    FlagWash wash = Check.laundry("U" + tubs + pegs + wind);
                    Check.dueCounts("made", wash, 4, 0, tubs, pegs, wind, 0, 0, 0, 0, 0);
                }
            }
        }
    }

    private static void partLetters() {
        Check.sentence("1: then PARTS");
        dueAllowed("U110", "F");
        dueAllowed("U110Fa01", "F");
        dueAllowed("U110Fa01Fa01", "FH");
        dueAllowed("U110Fa01Fa01H01", "F");
        dueAllowed("U110Fa01Fa01H01Fa01", "FH");
        dueAllowed("U110Fa01Fa01Fa01Fa01H01H02H03H12H13H23", "F");
    }

    private static void flagLetters() {
        Check.sentence("1: COLOURS c (a to p), CLOTH k: 0 to 3; it is washed w (1 to 4) HOURS");
        dueAllowed("U110F", "abcdefghijklmnop");
        dueAllowed("U110Fp", "0123");
        dueAllowed("U110Fp3", "1234");
        dueAllowed("U110Fa01Fa01Fa01Fa01F", "abcdefghijklmnop");
        dueAllowed("U110Fa01Fa01Fa01Fa01Fa", "0123");
        dueAllowed("U110Fa01Fa01Fa01Fa01Fa0", "1234");
    }

    private static void fiveFlagsAtMost() {
        Check.sentence("1: FLAGS (5 at most) are numbered as they are told");
        dueAllowed("U110Fa01Fa01Fa01Fa01", "FH");
        dueAllowed(FIVE, "H");
        Check.dueFault(FIVE, FlagWash.NONE);
        Check.dueFault(FIVE + "F", 24);
        Check.dueFault(FIVE + "H01F", 27);
        Check.dueFault(FIVE + "Fa01", 24);
        FlagWash wash = Check.laundry("U110Fa01Fb01Fc01Fd01Fe01");
        for (int flag = 0; flag < 5; flag++) {
            Check.due("flag(" + flag + ", 0)", wash.flag(flag, 0), flag);
        }
    }

    private static void bothToldAhead() {
        Check.sentence("1: HOSTILE (both told ahead");
        dueAllowed("U110Fa01Fa01H", "01");
        dueAllowed("U110Fa01Fa01Fa01H", "012");
        dueAllowed(FIVE + "H", "01234");
        dueAllowed(FIVE + "H4", "0123");
        Check.dueFault("U110Fa01H01Fa01", 8);
        Check.dueFault("U110Fa01Fa01H02Fa01", 14);
        Check.dueFault("U110Fa01Fa01H20Fa01", 13);
        Check.dueFault("U110H01Fa01Fa01", 4);
    }

    private static void notOne() {
        Check.sentence("1: HOSTILE (.. not one");
        for (int flag = 0; flag < 5; flag++) {
            Check.dueFault(FIVE + "H" + flag + flag, 26);
        }
        dueAllowed("U110Fa01Fa01H0", "1");
        dueAllowed("U110Fa01Fa01H1", "0");
    }

    private static void eachTwoOnce() {
        Check.sentence("1: HOSTILE (.. each two once, in whichever order)");
        Check.dueFault(FIVE + "H34", FlagWash.NONE);
        Check.dueFault(FIVE + "H43", FlagWash.NONE);
        Check.dueFault(FIVE + "H34H34", 29);
        Check.dueFault(FIVE + "H34H43", 29);
        Check.dueFault(FIVE + "H43H34", 29);
        dueAllowed("U110Fa01Fa01Fa01H01H0", "2");
        dueAllowed("U110Fa01Fa01Fa01H01H2", "01");
        // Flag 0 has none left, so its number can not come behind this H.
        dueAllowed("U110Fa01Fa01Fa01H01H20H", "12");
        dueAllowed("U110Fa01Fa01Fa01H01H20H1", "2");
        dueAllowed(FIVE + "H01H02H03H04H", "1234");
    }

    private static void lengthWhereNotAtItsEnd() {
        Check.sentence("1: FAULT: its length, if it is only not at its end; NONE: none");
        String text = "U342Fp34Fa01H10Fb22H02H12";
        String atEnd = "....|...|...|..|...|..|..|";
        for (int length = 0; length <= text.length(); length++) {
            boolean isWhole = length > 0 && (atEnd.charAt(length) == '|');
            Check.dueFault(text.substring(0, length), isWhole ? FlagWash.NONE : length);
        }
        Check.dueFault(FULL_TEXT.substring(0, 46), 46);
        Check.dueFault(FULL_TEXT.substring(0, 47), 47);
        Check.dueFault(FULL_TEXT, FlagWash.NONE);
    }

    private static void whateverCameBehind() {
        Check.sentence("1: FAULT: the place of the first letter by which THE TEXT can be no LAUNDRY");
        Check.dueFault("u110Fa01", 0);
        Check.dueFault("U410F", 1);
        Check.dueFault("U150F", 2);
        Check.dueFault("U113F", 3);
        Check.dueFault("U110f", 4);
        Check.dueFault("U110Fq91", 5);
        Check.dueFault("U110Fa49", 6);
        Check.dueFault("U110Fa05x", 7);
        Check.dueFault(FULL_TEXT.substring(0, 47) + "9", 47);
        Check.dueFault(FULL_TEXT.substring(0, 45) + "999", 45);
        FlagWash zeros = new FlagWash();
        for (int i = 1; i <= 48; i++) {
            Check.due("write(0)", zeros.write(0), i);
        }
        Check.due("fault() of 48 letters 0", zeros.fault(), 0);
    }

    private static void partsNoneOrMore() {
        Check.sentence("1: PARTS, none or more");
        Check.due("flags", Check.laundry("U110").count(1), 0);
        Check.due("flags", Check.laundry("U110Fa01").count(1), 1);
        Check.due("flags", Check.laundry(FIVE).count(1), 5);
        Check.due("flags", Check.laundry(FULL_TEXT).count(1), 5);
        Check.due("pairs", Check.laundry(FULL_TEXT).count(6), 8);
        Check.due("pairs", Check.laundry(FIVE).count(6), 0);
    }

    private static void busy(FlagWash wash) {
        Check.makeAnew(wash, "U231Fb02Fe31Fi13H02");
        wash.send(1);
        wash.hour();
        wash.keep(0);
        wash.wind(2);
        wash.keep(1);
        wash.hour();
        wash.see(0, 5, 2);
        wash.seed(77);
    }

    private static void laundryRefused() {
        Check.sentence("5: STATE: a FAULT. What is refused changes nothing");
        for (String text : new String[] {"", "U", "X", "U110F", "U110Fa01Fa01H0", FIVE + "F", "U0"}) {
            Twins.refused("laundry() of '" + text + "'", w -> {
                busy(w);
                Check.write(w, text);
            }, FlagWash::laundry, FlagWash.STATE);
        }
    }

    private static void laundryMadeAnew() {
        Check.sentence("1: THE HOUR is 0, all FLAGS are at HOME, when THE LAUNDRY is made anew");
        FlagWash wash = new FlagWash();
        busy(wash);
        wash.send(0);
        Check.due("laundry()", wash.laundry(), 3);
        Check.dueCounts("anew", wash, 19, 3, 2, 3, 1, 7, 1, 0, 0, 1);
        Check.dueFlag(wash, 0, 1, 0, 0);
        Check.dueFlag(wash, 1, 4, 0, 0);
        Check.dueFlag(wash, 2, 8, 0, 0);
        // Colours that ran in the wash before are gone, too.
        FlagWash ran = Check.laundry("U210Fb02Fe31");
        ran.send(0);
        ran.send(1);
        ran.hour();
        Check.dueFlag(ran, 0, 5, 1, 1);
        ran.laundry();
        Check.dueFlag(ran, 0, 1, 0, 0);
    }

    private static void laundryForgets() {
        Check.sentence("5: THE ROW of ACTS is empty, what was kept is gone");
        FlagWash wash = new FlagWash();
        busy(wash);
        Check.due("count(8)", wash.count(8), 4);
        wash.laundry();
        Check.due("count(8)", wash.count(8), 0);
        Check.due("undo()", wash.undo(), FlagWash.STATE);
        Check.due("again(0)", wash.again(0), FlagWash.STATE);
        Check.due("again(1)", wash.again(1), FlagWash.STATE);
        Check.makeAnew(wash, "U110Fa01");
        Check.due("flag(0, 5), no foes of the one before", wash.flag(0, 5), 0);
        Check.due("flag(1, 0)", wash.flag(1, 0), FlagWash.UNKNOWN);
        Check.makeAnew(wash, "U110");
        Check.due("flag(0, 0)", wash.flag(0, 0), FlagWash.UNKNOWN);
        Check.dueCounts("without flags", wash, 4, 0, 1, 1, 0, 0, 0, 0, 0, 1);
    }

    private static void laundryOfFewerFlags() {
        Check.sentence("5: THE TEXT is THE LAUNDRY: nothing of a greater one before it is left");
        FlagWash wash = Check.laundry(FULL_TEXT);
        Check.makeAnew(wash, "U310Fb01Fc01Fe01");
        Check.dueCounts("three friends", wash, 16, 3, 3, 1, 0, 7, 0, 0, 0, 0);
        Check.due("quiet()", wash.quiet(), FlagWash.NONE);
        Check.due("peace(0, 1)", wash.peace(0, 1), FlagWash.NONE);
        Check.due("sending(false)", wash.sending(false), 0);
        Check.due("sending(true)", wash.sending(true), FlagWash.NONE);
        Check.due("cover()", wash.cover(), 0);
        Check.due("weeks(30)", wash.weeks(30), 0);
        Check.due("share(0, true)", wash.share(0, true), 0);
        Check.due("judge(1, 4)", wash.judge(1, 4), 0);
        Check.due("send(3)", wash.send(3), FlagWash.UNKNOWN);
        Check.makeAnew(wash, "U310Fb01Fc01Fe01Fi01Fp01");
        Check.dueCounts("five friends", wash, 24, 5, 3, 1, 0, 31, 0, 0, 0, 0);
        Check.due("quiet()", wash.quiet(), FlagWash.NONE);
    }

    private static void laundryLeaves() {
        Check.sentence("5: SEEN, THE SEED stay");
        FlagWash wash = new FlagWash();
        busy(wash);
        wash.laundry();
        Check.due("count(9)", wash.count(9), 1);
        Check.due("had(0, 0)", wash.had(0, 0), 2);
        Check.due("seed(-1)", wash.seed(-1), 77);
        wash.laundry();
        Check.due("seed(0)", wash.seed(0), -1);
        Check.due("count(0), the text too", wash.count(0), 19);
    }

    private static void flagNumbers() {
        Check.sentence("6: UNKNOWN");
        FlagWash three = Check.laundry("U110Fb01Fb01Fb01");
        for (int what = -1; what <= 6; what++) {
            for (int flag : new int[] {-1, 3, 4, 5, 31, 32, 34, -32, Integer.MIN_VALUE, Integer.MAX_VALUE}) {
                Check.due("flag(" + flag + ", " + what + ")", three.flag(flag, what), FlagWash.UNKNOWN);
            }
        }
        Check.due("flag(0, 0)", three.flag(0, 0), 1);
        Check.due("flag(2, 0)", three.flag(2, 0), 1);
        FlagWash five = Check.laundry(FIVE);
        Check.due("flag(4, 0)", five.flag(4, 0), 0);
        Check.due("flag(5, 0)", five.flag(5, 0), FlagWash.UNKNOWN);
    }

    private static void flagWhats() {
        Check.sentence("6: OUTSIDE");
        FlagWash wash = Check.laundry("U110Fp34");
        int[] due = {15, 3, 4, 0, 0, 0};
        for (int what = 0; what <= 5; what++) {
            Check.due("flag(0, " + what + ")", wash.flag(0, what), due[what]);
        }
        for (int what : new int[] {-1, 6, 32, Integer.MIN_VALUE, Integer.MAX_VALUE}) {
            Check.due("flag(0, " + what + ")", wash.flag(0, what), FlagWash.OUTSIDE);
        }
    }

    private static void flagAsToldAtItsEdges() {
        Check.sentence("6: Of a FLAG its COLOURS, CLOTH, how long it is washed, to whom its country is HOSTILE");
        for (int colours = 0; colours <= 15; colours++) {
            for (int cloth = 0; cloth <= 3; cloth++) {
                for (int hours = 1; hours <= 4; hours++) {
                    FlagWash wash = Check.laundry("U110F" + (char) ('a' + colours) + cloth + hours);
                    Check.due("colours", wash.flag(0, 0), colours);
                    Check.due("cloth", wash.flag(0, 1), cloth);
                    Check.due("hours", wash.flag(0, 2), hours);
                }
            }
        }
        int[] foes = {30, 29, 11, 7, 3};
        FlagWash wash = Check.laundry(FULL_TEXT);
        for (int flag = 0; flag < 5; flag++) {
            Check.due("flag(" + flag + ", 5)", wash.flag(flag, 5), foes[flag]);
        }
    }
}
