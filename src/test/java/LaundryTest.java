/** Promises 1 to 6: a new object, write, wipe, fault, laundry, flag. */
public final class LaundryTest {
    public static void main(String[] args) {
        promise1NewObject();
        promise2Write();
        promise3Wipe();
        promise4FaultInHead();
        promise4FaultInFlags();
        promise4FaultInHostile();
        promise4WholeTexts();
        promise5Laundry();
        promise5WhatStays();
        promise6Flag();
        Check.end();
    }

    private static void promise1NewObject() {
        FlagWash wash = new FlagWash();
        Check.dueCounts("a new object", wash, 0, 0, 1, 1, 0, 0, 0, 0, 0, 0);
        Check.due("fault()", wash.fault(), 0);
        Check.due("laundry()", wash.laundry(), FlagWash.STATE);
        Check.due("flag(0, 0)", wash.flag(0, 0), FlagWash.UNKNOWN);
        Check.due("undo()", wash.undo(), FlagWash.STATE);
        Check.due("again(0)", wash.again(0), FlagWash.STATE);
        Check.due("again(1)", wash.again(1), FlagWash.STATE);
        Check.due("seed(1)", wash.seed(1), 0);
        Check.due("unsee()", wash.unsee(), 0);
    }

    private static void promise2Write() {
        FlagWash wash = new FlagWash();
        Check.due("write(-1)", wash.write(-1), FlagWash.OUTSIDE);
        Check.due("write(256)", wash.write(256), FlagWash.OUTSIDE);
        Check.due("write(least)", wash.write(Integer.MIN_VALUE), FlagWash.OUTSIDE);
        Check.due("write(greatest)", wash.write(Integer.MAX_VALUE), FlagWash.OUTSIDE);
        Check.due("count(0)", wash.count(0), 0);
        Check.due("write(0)", wash.write(0), 1);
        Check.due("write(255)", wash.write(255), 2);
        for (int i = 3; i <= 48; i++) {
            Check.due("write(85)", wash.write(85), i);
        }
        Check.due("write(85)", wash.write(85), FlagWash.FULL);
        Check.due("write(256), full", wash.write(256), FlagWash.OUTSIDE);
        Check.due("count(0)", wash.count(0), 48);
        Check.due("wipe()", wash.wipe(), 48);
        Check.due("write(85)", wash.write(85), 1);
    }

    private static void promise3Wipe() {
        FlagWash wash = Check.laundry("U342Fa01");
        Check.due("wipe()", wash.wipe(), 8);
        Check.due("wipe()", wash.wipe(), 0);
        Check.due("count(0)", wash.count(0), 0);
        Check.due("fault()", wash.fault(), 0);
        Check.dueCounts("the laundry stays", wash, 0, 1, 3, 4, 2, 1);
    }

    private static void promise4FaultInHead() {
        Check.dueFault("", 0);
        Check.dueFault("u", 0);
        Check.dueFault("U", 1);
        Check.dueFault("U0", 1);
        Check.dueFault("U4", 1);
        Check.dueFault("U1", 2);
        Check.dueFault("U3", 2);
        Check.dueFault("U10", 2);
        Check.dueFault("U15", 2);
        Check.dueFault("U11", 3);
        Check.dueFault("U113", 3);
        Check.dueFault("U11/", 3);
        Check.dueFault("U110", FlagWash.NONE);
        Check.dueFault("U342", FlagWash.NONE);
        Check.dueFault("U1100", 4);
        Check.dueFault("U110U", 4);
        Check.dueFault("XU110", 0);
    }

    private static void promise4FaultInFlags() {
        Check.dueFault("U110F", 5);
        Check.dueFault("U110F`", 5);
        Check.dueFault("U110Fq", 5);
        Check.dueFault("U110FA", 5);
        Check.dueFault("U110Fa", 6);
        Check.dueFault("U110Fa/", 6);
        Check.dueFault("U110Fa4", 6);
        Check.dueFault("U110Fp3", 7);
        Check.dueFault("U110Fp30", 7);
        Check.dueFault("U110Fp35", 7);
        Check.dueFault("U110Fp34", FlagWash.NONE);
        Check.dueFault("U110Fa01f", 8);
        Check.dueFault("U110Fa01Fa01Fa01Fa01Fa01", FlagWash.NONE);
        Check.dueFault("U110Fa01Fa01Fa01Fa01Fa01F", 24);
    }

    private static void promise4FaultInHostile() {
        Check.dueFault("U110H", 4);
        Check.dueFault("U110Fa01H", 8);
        Check.dueFault("U110Fa01Fa01H", 13);
        Check.dueFault("U110Fa01Fa01H2", 13);
        Check.dueFault("U110Fa01Fa01H/", 13);
        Check.dueFault("U110Fa01Fa01H0", 14);
        Check.dueFault("U110Fa01Fa01H00", 14);
        Check.dueFault("U110Fa01Fa01H02", 14);
        Check.dueFault("U110Fa01Fa01H10", FlagWash.NONE);
        Check.dueFault("U110Fa01Fa01H10H", 15);
        Check.dueFault("U110Fa01Fa01H10Fa01H01", 21);
        Check.dueFault("U110Fa01Fa01H10Fa01H1", 21);
        Check.dueFault("U110Fa01Fa01H10Fa01H12", FlagWash.NONE);
        // Flag 1 has no other left to be hostile to: its figure is the fault.
        Check.dueFault("U110Fa01Fa01H10Fa01H12H1", 23);
        Check.dueFault("U110Fa01Fa01H10Fa01H12H0", 24);
        Check.dueFault("U110Fa01Fa01H10Fa01H12H01", 24);
        Check.dueFault("U110Fa01Fa01H10Fa01H12H02", FlagWash.NONE);
        Check.dueFault("U110Fa01Fa01H10Fa01H12H02H", 25);
    }

    private static void promise4WholeTexts() {
        // All ten pairs of five flags would be too long a text; eight fit just.
        Check.dueFault("U110Fa01Fa01Fa01Fa01Fa01H01H02H03H04H12H13H14H23", FlagWash.NONE);
        Check.dueFault("U110Fa01Fa01Fa01Fa01H01H02H03H12H13H23Fa01H04H1", 47);
        Check.dueFault("U110Fa01Fa01Fa01Fa01H01H02H03H12H13H23Fa01H04H14", FlagWash.NONE);
        Check.dueFault("U110Fa01Fa01Fa01H01H02H12Fa01H03H13H23Fa01H04HHH", 46);
        Check.dueFault("U110Fa01Fa01Fa01Fa01H01H02H03H12H13H23H", 38);
        FlagWash wash = new FlagWash();
        Check.write(wash, "U110");
        wash.write(200);
        Check.due("fault() of a letter 200", wash.fault(), 4);
    }

    private static void promise5Laundry() {
        FlagWash wash = Check.laundry("U231Fb02Fe31Fi13H02");
        Check.dueCounts("made", wash, 19, 3, 2, 3, 1, 7, 1, 0, 0, 0);
        wash.send(1);
        wash.hour();
        wash.keep(0);
        wash.keep(1);
        Check.due("laundry() of the same text", wash.laundry(), 3);
        Check.dueCounts("made anew", wash, 19, 3, 2, 3, 1, 7, 1, 0, 0, 0);
        Check.due("undo()", wash.undo(), FlagWash.STATE);
        Check.due("again(0)", wash.again(0), FlagWash.STATE);
        Check.due("again(1)", wash.again(1), FlagWash.STATE);
        Check.dueFlag(wash, 1, 4, 0, 0);
        wash.send(0);
        wash.keep(1);
        String before = Check.told(wash);
        wash.write('x');
        Check.due("laundry() with a fault", wash.laundry(), FlagWash.STATE);
        Check.due("count(0)", wash.count(0), 20);
        Check.write(wash, "U231Fb02Fe31Fi13H02");
        Check.dueTrue("what is refused changes nothing", before.equals(Check.told(wash)));
        Check.due("again(1)", wash.again(1), 0);
    }

    private static void promise5WhatStays() {
        FlagWash wash = Check.laundry("U110Fb01Fc01Fd01");
        wash.see(0, 3, 2);
        wash.seed(77);
        wash.wind(2);
        Check.makeAnew(wash, "U121");
        Check.dueCounts("another", wash, 4, 0, 1, 2, 1, 0, 0, 0, 0, 1);
        Check.due("seed(0)", wash.seed(0), 77);
        Check.makeAnew(wash, "U110Fi12Fj23");
        Check.due("flag(0, 0)", wash.flag(0, 0), 8);
        Check.due("flag(0, 5)", wash.flag(0, 5), 0);
        Check.due("unsee()", wash.unsee(), 1);
    }

    private static void promise6Flag() {
        FlagWash wash = Check.laundry("U220Fa01Fp34Fk12Ff23H31H10");
        int[][] due = {{0, 0, 1, 0, 0, 2}, {15, 3, 4, 0, 0, 9}, {10, 1, 2, 0, 0, 0}, {5, 2, 3, 0, 0, 2}};
        for (int flag = 0; flag < 4; flag++) {
            for (int what = 0; what <= 5; what++) {
                Check.due("flag(" + flag + ", " + what + ")", wash.flag(flag, what), due[flag][what]);
            }
            Check.due("flag(.., 6)", wash.flag(flag, 6), FlagWash.OUTSIDE);
            Check.due("flag(.., -1)", wash.flag(flag, -1), FlagWash.OUTSIDE);
        }
        Check.due("flag(4, 0)", wash.flag(4, 0), FlagWash.UNKNOWN);
        Check.due("flag(4, 6)", wash.flag(4, 6), FlagWash.UNKNOWN);
        Check.due("flag(-1, 0)", wash.flag(-1, 0), FlagWash.UNKNOWN);
        Check.due("flag(least, 0)", wash.flag(Integer.MIN_VALUE, 0), FlagWash.UNKNOWN);
        Check.due("flag(greatest, 0)", wash.flag(Integer.MAX_VALUE, 0), FlagWash.UNKNOWN);
        wash.send(1);
        wash.send(2);
        Check.dueFlag(wash, 1, 15, 1, 4);
        Check.dueFlag(wash, 2, 10, 1, 2);
        wash.hour();
        Check.dueFlag(wash, 1, 15, 1, 3);
        Check.dueFlag(wash, 2, 15, 1, 1);
        wash.hour();
        Check.dueFlag(wash, 2, 15, 2, 6);
        Check.due("flag(2, 2), as told", wash.flag(2, 2), 2);
    }
}
