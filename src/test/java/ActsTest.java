/** Promises 7 to 11: send, pull, hour, wind, undo. */
public final class ActsTest {
    public static void main(String[] args) {
        promise7Send();
        promise8Pull();
        promise9Wet();
        promise9Pegs();
        promise9Dyes();
        promise9NoFlags();
        promise10Wind();
        promise11Undo();
        promise11Forgets();
        Check.end();
    }

    private static void promise7Send() {
        FlagWash wash = Check.laundry("U210Fb02Fc03Fe01");
        Check.due("send(3)", wash.send(3), FlagWash.UNKNOWN);
        Check.due("send(-1)", wash.send(-1), FlagWash.UNKNOWN);
        Check.due("send(0)", wash.send(0), 1);
        Check.due("send(0)", wash.send(0), FlagWash.STATE);
        Check.due("send(1)", wash.send(1), 0);
        Check.due("send(2)", wash.send(2), FlagWash.STATE);
        Check.due("send(3)", wash.send(3), FlagWash.UNKNOWN);
        Check.dueCounts("two are sent", wash, 16, 3, 0, 1, 0, 4, 0, 0, 2, 0);
        Check.dueFlag(wash, 0, 1, 1, 2);
        Check.dueFlag(wash, 1, 2, 1, 3);
        Check.dueFlag(wash, 2, 4, 0, 0);
        wash.hour();
        wash.hour();
        Check.due("send(0), on the line", wash.send(0), FlagWash.STATE);
        Check.due("send(2)", wash.send(2), 0);
    }

    private static void promise8Pull() {
        FlagWash wash = Check.laundry("U210Fb31Fc03");
        Check.due("pull(2)", wash.pull(2), FlagWash.UNKNOWN);
        Check.due("pull(-1)", wash.pull(-1), FlagWash.UNKNOWN);
        Check.due("pull(0)", wash.pull(0), FlagWash.STATE);
        wash.send(0);
        wash.send(1);
        wash.hour();
        Check.due("count(3)", wash.count(3), 0);
        Check.due("pull(0)", wash.pull(0), 2);
        Check.due("pull(1)", wash.pull(1), 1);
        Check.due("pull(1)", wash.pull(1), FlagWash.STATE);
        Check.dueFlag(wash, 0, 1, 0, 0);
        Check.dueFlag(wash, 1, 3, 0, 0);
        Check.dueCounts("both are pulled", wash, 12, 2, 2, 1, 0, 3, 0, 1, 5, 0);
        wash.send(1);
        Check.dueFlag(wash, 1, 3, 1, 3);
    }

    private static void promise9Wet() {
        FlagWash wash = Check.laundry("U340Fa01Fa11Fa21");
        for (int flag = 0; flag < 3; flag++) {
            wash.send(flag);
        }
        Check.due("hour()", wash.hour(), 0);
        int[] wet = {4, 6, 2};
        for (int flag = 0; flag < 3; flag++) {
            Check.dueFlag(wash, flag, 0, 2, wet[flag]);
        }
        Check.due("hour()", wash.hour(), 0);
        Check.dueFlag(wash, 2, 0, 2, 1);
        Check.due("hour()", wash.hour(), 4);
        Check.dueFlag(wash, 2, 0, 0, 0);
        Check.due("hour()", wash.hour(), 0);
        Check.due("hour()", wash.hour(), 1);
        Check.due("hour()", wash.hour(), 0);
        Check.due("hour()", wash.hour(), 2);
        Check.due("hour()", wash.hour(), 0);
        Check.due("count(7)", wash.count(7), 8);
        FlagWash two = Check.laundry("U340Fa21Fa21Fa11");
        two.send(0);
        two.send(1);
        two.send(2);
        two.hour();
        two.hour();
        Check.due("hour(), two come home in it", two.hour(), 3);
        FlagWash dyed = Check.laundry("U111Fa31");
        dyed.send(0);
        dyed.hour();
        Check.dueFlag(dyed, 0, 0, 2, 4);
        dyed.hour();
        Check.dueFlag(dyed, 0, 0, 2, 2);
        dyed.wind(2);
        Check.due("hour(), drier than dry", dyed.hour(), 1);
        Check.dueFlag(dyed, 0, 0, 0, 0);
    }

    private static void promise9Pegs() {
        FlagWash wash = Check.laundry("U310Fa22Fa21Fa21");
        for (int flag = 0; flag < 3; flag++) {
            wash.send(flag);
        }
        wash.hour();
        Check.dueFlag(wash, 0, 0, 1, 1);
        Check.dueFlag(wash, 1, 0, 2, 2);
        Check.dueFlag(wash, 2, 0, 1, 0);
        wash.hour();
        Check.dueFlag(wash, 0, 0, 1, 0);
        Check.dueFlag(wash, 2, 0, 1, 0);
        Check.due("count(3)", wash.count(3), 0);
        Check.due("hour(), a peg is free in it", wash.hour(), 2);
        Check.dueFlag(wash, 0, 0, 2, 2);
        Check.dueFlag(wash, 2, 0, 1, 0);
        wash.hour();
        Check.due("hour()", wash.hour(), 1);
        Check.dueFlag(wash, 2, 0, 2, 2);
    }

    private static void promise9Dyes() {
        FlagWash wash = Check.laundry("U340Fb02Fc32Fe31Fi01");
        wash.send(0);
        wash.hour();
        Check.dueFlag(wash, 0, 1, 1, 1);
        wash.send(1);
        wash.send(2);
        wash.hour();
        Check.dueFlag(wash, 0, 7, 2, 4);
        Check.dueFlag(wash, 1, 6, 1, 1);
        Check.dueFlag(wash, 2, 6, 2, 4);
        Check.dueFlag(wash, 3, 8, 0, 0);
        wash.send(3);
        wash.hour();
        Check.dueFlag(wash, 0, 7, 2, 3);
        Check.dueFlag(wash, 1, 6, 2, 4);
        Check.dueFlag(wash, 3, 14, 2, 4);
        // One that is washed but finds no peg still runs.
        FlagWash waits = Check.laundry("U210Fb21Fc31Fe02");
        waits.send(0);
        waits.send(1);
        waits.hour();
        Check.dueFlag(waits, 1, 2, 1, 0);
        Check.due("send(2)", waits.send(2), 0);
        waits.hour();
        Check.dueFlag(waits, 0, 3, 2, 1);
        Check.dueFlag(waits, 1, 2, 1, 0);
        Check.dueFlag(waits, 2, 6, 1, 1);
    }

    private static void promise9NoFlags() {
        FlagWash wash = new FlagWash();
        for (int i = 1; i <= 20; i++) {
            Check.due("hour()", wash.hour(), 0);
            Check.due("count(7)", wash.count(7), i);
        }
        Check.due("count(8)", wash.count(8), 14);
    }

    private static void promise10Wind() {
        FlagWash wash = new FlagWash();
        Check.due("wind(-1)", wash.wind(-1), FlagWash.OUTSIDE);
        Check.due("wind(3)", wash.wind(3), FlagWash.OUTSIDE);
        Check.due("wind(0)", wash.wind(0), FlagWash.STATE);
        Check.due("count(8)", wash.count(8), 0);
        Check.due("wind(2)", wash.wind(2), 0);
        Check.due("wind(2)", wash.wind(2), FlagWash.STATE);
        Check.due("wind(1)", wash.wind(1), 2);
        Check.due("count(4)", wash.count(4), 1);
        Check.due("count(7)", wash.count(7), 0);
        Check.due("count(8)", wash.count(8), 2);
    }

    private static void promise11Undo() {
        FlagWash wash = Check.laundry("U211Fb32Fc12H01");
        String[] told = new String[8];
        told[0] = Check.told(wash);
        wash.send(0);
        told[1] = Check.told(wash);
        wash.send(1);
        told[2] = Check.told(wash);
        wash.hour();
        told[3] = Check.told(wash);
        wash.wind(0);
        told[4] = Check.told(wash);
        wash.hour();
        told[5] = Check.told(wash);
        wash.pull(1);
        told[6] = Check.told(wash);
        wash.send(5);
        wash.wind(0);
        wash.pull(1);
        for (int left = 5; left >= 0; left--) {
            Check.due("undo()", wash.undo(), left);
            Check.dueTrue("all is as it was ahead of act " + left, told[left].equals(Check.told(wash)));
        }
        Check.due("undo()", wash.undo(), FlagWash.STATE);
        Check.due("send(1)", wash.send(1), 1);
        Check.due("count(8)", wash.count(8), 1);
    }

    private static void promise11Forgets() {
        FlagWash wash = Check.laundry("U110Fb02");
        wash.send(0);
        for (int i = 0; i < 30; i++) {
            wash.wind(i % 2 + 1);
        }
        Check.due("count(8)", wash.count(8), 14);
        for (int left = 13; left >= 0; left--) {
            int wind = wash.count(4);
            Check.due("undo()", wash.undo(), left);
            Check.due("count(4)", wash.count(4), 3 - wind);
        }
        Check.due("undo()", wash.undo(), FlagWash.STATE);
        Check.due("flag(0, 3)", wash.flag(0, 3), 1);
        wash.wind(0);
        Check.due("count(8)", wash.count(8), 1);
        Check.due("undo()", wash.undo(), 0);
        Check.due("count(4)", wash.count(4), 2);
    }
}
