/** Promises 26 to 28: keep, again, count. */
public final class SlotsTest {
    public static void main(String[] args) {
        promise26Keep();
        promise27Again();
        promise27WhatStays();
        promise28Count();
        Check.end();
    }

    private static void promise26Keep() {
        FlagWash wash = Check.laundry("U110Fa01");
        Check.due("keep(-1)", wash.keep(-1), FlagWash.UNKNOWN);
        Check.due("keep(2)", wash.keep(2), FlagWash.UNKNOWN);
        Check.due("keep(0)", wash.keep(0), 0);
        wash.hour();
        wash.hour();
        Check.due("keep(1)", wash.keep(1), 2);
        Check.due("count(8), the row stays", wash.count(8), 2);
        wash.hour();
        Check.due("keep(0), over what was kept", wash.keep(0), 3);
        wash.hour();
        Check.due("again(0)", wash.again(0), 3);
        Check.due("again(1)", wash.again(1), 2);
    }

    private static void promise27Again() {
        FlagWash wash = Check.laundry("U230Fb32Fc12Fa01H01");
        Check.due("again(-1)", wash.again(-1), FlagWash.UNKNOWN);
        Check.due("again(2)", wash.again(2), FlagWash.UNKNOWN);
        Check.due("again(0)", wash.again(0), FlagWash.STATE);
        wash.send(0);
        wash.send(1);
        wash.hour();
        wash.wind(2);
        wash.keep(0);
        Check.due("again(1)", wash.again(1), FlagWash.STATE);
        Check.due("count(8), refused", wash.count(8), 4);
        wash.pull(0);
        wash.send(2);
        wash.hour();
        wash.hour();
        wash.wind(1);
        Check.due("again(0)", wash.again(0), 1);
        Check.dueCounts("as it was kept", wash, 19, 3, 0, 3, 2, 4, 0, 1, 0, 0);
        Check.dueFlag(wash, 0, 1, 1, 1);
        Check.dueFlag(wash, 1, 3, 1, 1);
        Check.dueFlag(wash, 2, 0, 0, 0);
        Check.due("undo()", wash.undo(), FlagWash.STATE);
        wash.hour();
        wash.hour();
        Check.due("again(0), once more", wash.again(0), 1);
        Check.dueFlag(wash, 1, 3, 1, 1);
    }

    private static void promise27WhatStays() {
        FlagWash wash = Check.laundry("U230Fb32Fc12");
        wash.keep(1);
        wash.see(0, 3, 2);
        wash.seed(9);
        wash.write('F');
        Check.due("again(1)", wash.again(1), 0);
        Check.due("count(9)", wash.count(9), 1);
        Check.due("seed(1)", wash.seed(1), 9);
        Check.due("count(0)", wash.count(0), 13);
        Check.makeAnew(wash, "U110");
        Check.due("again(1), another laundry", wash.again(1), FlagWash.STATE);
    }

    private static void promise28Count() {
        FlagWash wash = Check.laundry("U341Fb21Fc12Fa01Fa04H01H12H03");
        Check.due("count(-1)", wash.count(-1), FlagWash.OUTSIDE);
        Check.due("count(10)", wash.count(10), FlagWash.OUTSIDE);
        Check.dueCounts("at first", wash, 29, 4, 3, 4, 1, 15, 3, 0, 0, 0);
        wash.send(0);
        wash.send(2);
        wash.see(1, 1, 1);
        Check.dueCounts("two are sent", wash, 29, 4, 1, 4, 1, 10, 0, 0, 2, 1);
        wash.hour();
        Check.dueCounts("an hour", wash, 29, 4, 3, 2, 1, 10, 0, 1, 3, 1);
        wash.hour();
        wash.wind(0);
        Check.dueCounts("silk is home", wash, 29, 4, 3, 3, 0, 11, 2, 2, 5, 1);
        wash.wipe();
        Check.dueCounts("wiped", wash, 0, 4, 3, 3, 0, 11, 2, 2, 5, 1);
    }
}
