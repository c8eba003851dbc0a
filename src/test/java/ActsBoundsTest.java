/** Edges of promises 7 to 11, one test for each sentence of the document that names one. */
public final class ActsBoundsTest {
    private static final int[] NO_FLAGS_OF_THREE =
            {-1, 3, 4, 5, 31, 32, 33, -32, Integer.MIN_VALUE, Integer.MAX_VALUE};

    public static void main(String[] args) {
        sendUntilNoTubIsFree();
        sendNotFromHome();
        sendUnknown();
        sendWaitsForPeg();
        pullFromEachPlace();
        pullUnknown();
        pullFrees();
        hoursWashed();
        washedNoneAtLeast();
        hoursOfDrying();
        drierThanDry();
        pegsAreFull();
        pegFreeInThatHour();
        dyesOfThatHour();
        dyesByNumber();
        hourComesHome();
        hourWithoutFlags();
        hourIsOneMore();
        windEdges();
        windIsThat();
        undoWithoutActs();
        undoFourteen();
        undoWrapsAround();
        undoOfEachAct();
        refusedIsNoAct();
        Check.end();
    }

    private static void sendUntilNoTubIsFree() {
        Check.sentence("7: how many TUBS are free then. STATE: none is free");
        for (int tubs = 1; tubs <= 3; tubs++) {
            FlagWash wash = Check.laundry("U" + tubs + "40Fa04Fa04Fa04Fa04Fa04");
            for (int flag = 0; flag < tubs; flag++) {
                Check.due("send(" + flag + ") of " + tubs, wash.send(flag), tubs - 1 - flag);
            }
            for (int flag = tubs; flag < 5; flag++) {
                Check.due("send(" + flag + ") of " + tubs, wash.send(flag), FlagWash.STATE);
            }
            Check.due("count(2)", wash.count(2), 0);
            Check.due("count(8)", wash.count(8), tubs);
            Check.due("pull(0)", wash.pull(0), 1);
            Check.due("send(4), the tub is free again", wash.send(4), 0);
        }
    }

    private static void sendNotFromHome() {
        Check.sentence("7: STATE: it is not at HOME");
        Twins.refused("send(0), in a tub, others free", ActsBoundsTest::oneInTub, w -> w.send(0), FlagWash.STATE);
        Twins.refused("send(0), on the line", w -> {
            oneInTub(w);
            w.hour();
        }, w -> w.send(0), FlagWash.STATE);
        FlagWash home = new FlagWash();
        oneInTub(home);
        for (int i = 0; i < 3; i++) {
            home.hour();
        }
        Check.due("send(0), home again", home.send(0), 2);
    }

    /** Three flags, three tubs; flag 0, silk that is washed in one hour, is in one. */
    private static void oneInTub(FlagWash wash) {
        Check.makeAnew(wash, "U340Fb21Fc04Fe14H01");
        wash.keep(1);
        wash.send(0);
    }

    private static void sendUnknown() {
        Check.sentence("7: UNKNOWN; STATE");
        for (int flag : NO_FLAGS_OF_THREE) {
            Twins.refused("send(" + flag + ")", ActsBoundsTest::oneInTub, w -> w.send(flag), FlagWash.UNKNOWN);
        }
        FlagWash full = Check.laundry("U110Fa01");
        full.send(0);
        Check.due("send(1), none is free", full.send(1), FlagWash.UNKNOWN);
        Check.due("send(-1), none is free", full.send(-1), FlagWash.UNKNOWN);
    }

    private static void sendWaitsForPeg() {
        Check.sentence("1: others stay in their TUBS");
        FlagWash wash = Check.laundry("U210Fa11Fa21Fa01");
        wash.send(0);
        wash.send(1);
        wash.hour();
        Check.dueFlag(wash, 1, 0, 1, 0);
        Check.due("count(2)", wash.count(2), 1);
        Check.due("send(1), washed, still in its tub", wash.send(1), FlagWash.STATE);
        Check.due("send(2)", wash.send(2), 0);
        Check.due("send(0)", wash.send(0), FlagWash.STATE);
    }

    private static void pullFromEachPlace() {
        Check.sentence("8: where it was. STATE: it is at HOME");
        Twins.refused("pull(1), at home", ActsBoundsTest::oneInTub, w -> w.pull(1), FlagWash.STATE);
        FlagWash wash = new FlagWash();
        oneInTub(wash);
        Check.due("pull(0), in a tub", wash.pull(0), 1);
        Check.due("pull(0), at home", wash.pull(0), FlagWash.STATE);
        wash.send(0);
        wash.hour();
        Check.due("pull(0), on the line", wash.pull(0), 2);
        Check.due("pull(0), at home", wash.pull(0), FlagWash.STATE);
        wash.send(0);
        wash.hour();
        wash.hour();
        Check.due("hour()", wash.hour(), 1);
        Check.due("pull(0), it came home", wash.pull(0), FlagWash.STATE);
        Check.dueFlag(wash, 0, 1, 0, 0);
    }

    private static void pullUnknown() {
        Check.sentence("8: UNKNOWN; STATE");
        for (int flag : NO_FLAGS_OF_THREE) {
            Twins.refused("pull(" + flag + ")", ActsBoundsTest::oneInTub, w -> w.pull(flag), FlagWash.UNKNOWN);
        }
    }

    private static void pullFrees() {
        Check.sentence("1: PULLED: one that is not at HOME is there");
        FlagWash wash = Check.laundry("U210Fa11Fa31Fa01");
        wash.send(0);
        wash.send(1);
        wash.hour();
        Check.due("count(3)", wash.count(3), 0);
        Check.due("pull(0)", wash.pull(0), 2);
        Check.due("count(3)", wash.count(3), 1);
        Check.dueFlag(wash, 1, 0, 1, 0);
        Check.due("pull(1), washed, in its tub", wash.pull(1), 1);
        Check.due("count(2)", wash.count(2), 2);
        Check.due("send(1), washed as long as told", wash.send(1), 1);
        Check.dueFlag(wash, 1, 0, 1, 1);
    }

    private static void hoursWashed() {
        Check.sentence("1: to be washed w HOURS; those that are washed (0) go on the LINE");
        int[] wet = {4, 6, 2, 4};
        for (int cloth = 0; cloth <= 3; cloth++) {
            for (int hours = 1; hours <= 4; hours++) {
                FlagWash wash = Check.laundry("U112Fc" + cloth + hours);
                wash.send(0);
                for (int left = hours; left >= 1; left--) {
                    Check.dueFlag(wash, 0, 2, 1, left);
                    Check.due("hour()", wash.hour(), 0);
                }
                Check.dueFlag(wash, 0, 2, 2, wet[cloth]);
            }
        }
    }

    private static void washedNoneAtLeast() {
        Check.sentence("1: Each in a TUB is washed 1 HOUR less (0 at least)");
        FlagWash wash = Check.laundry("U210Fa11Fa21");
        wash.send(0);
        wash.send(1);
        for (int i = 0; i < 6; i++) {
            wash.hour();
            Check.dueFlag(wash, 1, 0, 1, 0);
        }
        Check.due("hour()", wash.hour(), 1);
        Check.dueFlag(wash, 1, 0, 2, 2);
    }

    private static void hoursOfDrying() {
        Check.sentence("1: COTTON, DYED 4 wet, WOOL 6, SILK 2; each is 1 and WIND less wet");
        int[][] hours = {{4, 2, 2}, {6, 3, 2}, {2, 1, 1}, {4, 2, 2}};
        for (int cloth = 0; cloth <= 3; cloth++) {
            for (int wind = 0; wind <= 2; wind++) {
                FlagWash wash = Check.laundry("U11" + wind + "Fa" + cloth + "1");
                wash.send(0);
                wash.hour();
                int wet = wash.flag(0, 4);
                for (int i = 1; i < hours[cloth][wind]; i++) {
                    Check.due("hour() of cloth " + cloth + ", wind " + wind, wash.hour(), 0);
                    Check.dueFlag(wash, 0, 0, 2, wet - i * (1 + wind));
                }
                Check.due("hour() of cloth " + cloth + ", wind " + wind, wash.hour(), 1);
                Check.dueFlag(wash, 0, 0, 0, 0);
            }
        }
    }

    private static void drierThanDry() {
        Check.sentence("1: at HOME, if it is not wet any more");
        FlagWash wash = Check.laundry("U110Fa21");
        wash.send(0);
        wash.hour();
        wash.hour();
        Check.dueFlag(wash, 0, 0, 2, 1);
        wash.wind(2);
        Check.due("hour(), by 2 more than it is wet", wash.hour(), 1);
        Check.dueFlag(wash, 0, 0, 0, 0);
        wash.wind(0);
        Check.due("hour()", wash.hour(), 0);
        Check.dueFlag(wash, 0, 0, 0, 0);
    }

    private static void pegsAreFull() {
        Check.sentence("1: by number, go on the LINE, as long as PEGS are free");
        for (int pegs = 1; pegs <= 4; pegs++) {
            FlagWash wash = Check.laundry("U3" + pegs + "0Fa11Fa11Fa11Fa11Fa11");
            sendThree(wash, 2, 1, 0);
            wash.hour();
            for (int flag = 0; flag < 3; flag++) {
                Check.due("flag(" + flag + ", 3), pegs " + pegs, wash.flag(flag, 3), flag < pegs ? 2 : 1);
            }
            Check.due("count(3)", wash.count(3), Math.max(0, pegs - 3));
            Check.due("count(2)", wash.count(2), Math.min(3, pegs));
        }
        FlagWash four = Check.laundry("U340Fa11Fa11Fa11Fa11Fa11");
        sendThree(four, 2, 3, 4);
        four.hour();
        four.send(0);
        four.send(1);
        four.hour();
        Check.due("count(3), all four", four.count(3), 0);
        Check.dueFlag(four, 0, 0, 2, 6);
        Check.dueFlag(four, 1, 0, 1, 0);
    }

    private static void sendThree(FlagWash wash, int first, int second, int third) {
        Check.due("send", wash.send(first), 2);
        Check.due("send", wash.send(second), 1);
        Check.due("send", wash.send(third), 0);
    }

    private static void pegFreeInThatHour() {
        Check.sentence("1: AN HOUR, in this order");
        FlagWash wash = Check.laundry("U210Fa21Fa21H01");
        wash.send(1);
        wash.hour();
        wash.send(0);
        wash.hour();
        Check.dueFlag(wash, 0, 0, 1, 0);
        Check.due("hour(), its peg is free in it", wash.hour(), 2);
        // It is on the line since this hour, so it dries from the next on.
        Check.dueFlag(wash, 0, 0, 2, 2);
        Check.due("count(3)", wash.count(3), 0);
    }

    private static void dyesOfThatHour() {
        Check.sentence("1: If any FLAGS in TUBS are DYED, all in TUBS have the COLOURS that these had, too");
        FlagWash last = Check.laundry("U240Fb01Fc31");
        last.send(0);
        last.send(1);
        last.hour();
        Check.dueFlag(last, 0, 3, 2, 4);
        Check.dueFlag(last, 1, 2, 2, 4);
        FlagWash line = Check.laundry("U240Fb21Fc34");
        line.send(0);
        line.hour();
        line.send(1);
        line.hour();
        Check.dueFlag(line, 0, 1, 2, 1);
        Check.due("hour()", line.hour(), 1);
        Check.dueFlag(line, 0, 1, 0, 0);
        FlagWash alone = Check.laundry("U240Fp34");
        alone.send(0);
        alone.hour();
        Check.dueFlag(alone, 0, 15, 1, 3);
        FlagWash none = Check.laundry("U340Fa34Fb34Fi04Fp04");
        none.send(0);
        none.send(2);
        none.hour();
        Check.dueFlag(none, 0, 0, 1, 3);
        Check.dueFlag(none, 2, 8, 1, 3);
        none.send(1);
        none.hour();
        Check.dueFlag(none, 0, 1, 1, 2);
        Check.dueFlag(none, 1, 1, 1, 3);
        Check.dueFlag(none, 2, 9, 1, 2);
        Check.dueFlag(none, 3, 15, 0, 0);
    }

    private static void dyesByNumber() {
        Check.sentence("1: If any FLAGS in TUBS are DYED: the first, the last one");
        for (int dyed = 0; dyed < 5; dyed++) {
            StringBuilder text = new StringBuilder("U240");
            for (int flag = 0; flag < 5; flag++) {
                text.append(flag == dyed ? "Fp34" : "Fa04");
            }
            for (int other = 0; other < 5; other++) {
                if (other != dyed) {
                    FlagWash wash = Check.laundry(text.toString());
                    wash.send(other);
                    wash.send(dyed);
                    wash.hour();
                    Check.dueFlag(wash, other, 15, 1, 3);
                    Check.dueFlag(wash, dyed, 15, 1, 3);
                }
            }
        }
    }

    private static void hourComesHome() {
        Check.sentence("9: FLAGS that came HOME in it, as bits");
        FlagWash wash = Check.laundry("U340Fa21Fa11Fa11Fa11Fa01");
        sendThree(wash, 1, 2, 3);
        wash.hour();
        for (int i = 0; i < 3; i++) {
            Check.due("hour()", wash.hour(), 0);
        }
        wash.send(0);
        Check.due("hour()", wash.hour(), 0);
        Check.due("count(3), the pegs are full", wash.count(3), 0);
        Check.due("hour()", wash.hour(), 0);
        Check.due("hour(), all four", wash.hour(), 15);
        Check.due("hour(), none any more", wash.hour(), 0);
        wash.send(4);
        for (int i = 0; i < 4; i++) {
            Check.due("hour()", wash.hour(), 0);
        }
        Check.due("hour(), the last flag", wash.hour(), 16);
    }

    private static void hourWithoutFlags() {
        Check.sentence("9: AN HOUR, with no flags");
        FlagWash wash = new FlagWash();
        Check.due("hour()", wash.hour(), 0);
        Check.dueCounts("an hour", wash, 0, 0, 1, 1, 0, 0, 0, 1, 1, 0);
    }

    private static void hourIsOneMore() {
        Check.sentence("1: THE HOUR is one more");
        FlagWash wash = new FlagWash();
        for (int i = 1; i <= 400; i++) {
            wash.hour();
        }
        Check.due("count(7)", wash.count(7), 400);
        Check.due("count(8)", wash.count(8), 14);
        Check.due("keep(0)", wash.keep(0), 400);
        Check.due("undo()", wash.undo(), 13);
        Check.due("count(7)", wash.count(7), 399);
        Check.due("again(0)", wash.again(0), 400);
    }

    private static void windEdges() {
        Check.sentence("10: OUTSIDE: wind (0 to 2)");
        for (int wind : new int[] {-1, 3, 256, Integer.MIN_VALUE, Integer.MAX_VALUE}) {
            Twins.refused("wind(" + wind + ")", ActsBoundsTest::oneInTub, w -> w.wind(wind), FlagWash.OUTSIDE);
            Check.due("wind(" + wind + ") of a new object", new FlagWash().wind(wind), FlagWash.OUTSIDE);
        }
    }

    private static void windIsThat() {
        Check.sentence("10: what it was; STATE: it is that");
        for (int from = 0; from <= 2; from++) {
            String text = "U11" + from + "Fa01";
            for (int to = 0; to <= 2; to++) {
                int wind = to;
                if (from == to) {
                    Twins.refused("wind(" + to + ")", w -> Check.makeAnew(w, text), w -> w.wind(wind),
                            FlagWash.STATE);
                } else {
                    FlagWash wash = Check.laundry(text);
                    Check.due("wind(" + to + ")", wash.wind(to), from);
                    Check.due("count(4)", wash.count(4), to);
                    Check.due("wind(" + to + ") once more", wash.wind(to), FlagWash.STATE);
                    Check.due("count(8)", wash.count(8), 1);
                }
            }
        }
    }

    private static void undoWithoutActs() {
        Check.sentence("11: STATE: there is none");
        Twins.refused("undo() of a new object", w -> { }, FlagWash::undo, FlagWash.STATE);
        Twins.refused("undo() of a new laundry", w -> {
            oneInTub(w);
            w.laundry();
        }, FlagWash::undo, FlagWash.STATE);
        Twins.refused("undo(), when one goes on", w -> {
            oneInTub(w);
            w.again(1);
        }, FlagWash::undo, FlagWash.STATE);
        Twins.refused("undo(), when all is undone", w -> {
            oneInTub(w);
            w.undo();
        }, FlagWash::undo, FlagWash.STATE);
    }

    private static void undoFourteen() {
        Check.sentence("1: ACTS are a row (14 at most; of more the first one is forgotten)");
        for (int acts = 1; acts <= 30; acts++) {
            FlagWash wash = new FlagWash();
            for (int i = 1; i <= acts; i++) {
                wash.hour();
                Check.due("count(8) of " + i, wash.count(8), Math.min(i, 14));
            }
            int undone = Math.min(acts, 14);
            for (int left = undone - 1; left >= 0; left--) {
                Check.due("undo() of " + acts, wash.undo(), left);
                Check.due("count(8)", wash.count(8), left);
            }
            Check.due("undo() of " + acts, wash.undo(), FlagWash.STATE);
            Check.due("count(7) of " + acts, wash.count(7), acts - undone);
        }
    }

    private static void undoWrapsAround() {
        Check.sentence("1: the last one can be undone; acts again when the row has gone around");
        FlagWash wash = new FlagWash();
        int hour = 0;
        for (int round = 0; round < 12; round++) {
            for (int i = 0; i < 17; i++) {
                wash.hour();
            }
            hour += 17;
            for (int i = 1; i <= 5 + round % 9; i++) {
                hour--;
                Check.due("undo()", wash.undo(), 14 - i);
                Check.due("count(7)", wash.count(7), hour);
            }
        }
    }

    private static void undoOfEachAct() {
        Check.sentence("1: ACTS (SENT, PULLED, HOURS, WIND); the last one can be undone");
        FlagWash sent = Check.laundry("U110Fb04");
        sent.send(0);
        Check.due("undo() of a send", sent.undo(), 0);
        Check.dueFlag(sent, 0, 1, 0, 0);
        Check.due("count(2)", sent.count(2), 1);
        sent.send(0);
        sent.hour();
        sent.pull(0);
        Check.due("undo() of a pull", sent.undo(), 2);
        Check.dueFlag(sent, 0, 1, 1, 3);
        Check.due("undo() of an hour", sent.undo(), 1);
        Check.dueFlag(sent, 0, 1, 1, 4);
        Check.due("count(7)", sent.count(7), 0);
        sent.wind(2);
        Check.due("undo() of a wind", sent.undo(), 1);
        Check.due("count(4)", sent.count(4), 0);
        FlagWash ran = Check.laundry("U210Fb02Fe32");
        ran.send(0);
        ran.send(1);
        ran.hour();
        Check.due("flag(0, 0)", ran.flag(0, 0), 5);
        ran.undo();
        Check.due("flag(0, 0), it did not run", ran.flag(0, 0), 1);
    }

    private static void refusedIsNoAct() {
        Check.sentence("What is refused changes nothing: THE ROW with 14");
        FlagWash wash = new FlagWash();
        oneInTub(wash);
        for (int i = 0; i < 13; i++) {
            wash.wind(1 + i % 2);
        }
        Check.due("count(8)", wash.count(8), 14);
        wash.send(0);
        wash.send(9);
        wash.pull(1);
        wash.pull(9);
        wash.wind(1);
        wash.wind(9);
        wash.again(0);
        for (int left = 13; left >= 0; left--) {
            Check.due("undo()", wash.undo(), left);
        }
        Check.dueFlag(wash, 0, 1, 0, 0);
        Check.due("undo()", wash.undo(), FlagWash.STATE);
    }
}
