/** Promises 18 to 20: see, unsee, had. */
public final class SeenTest {
    public static void main(String[] args) {
        promise18See();
        promise19Unsee();
        promise20Had();
        promise20OthersAsNow();
        promise20FlagsThatAreGone();
        Check.end();
    }

    private static void promise18See() {
        FlagWash wash = Check.laundry("U110Fb01Fc01");
        Check.due("see(2, 0, 0)", wash.see(2, 0, 0), FlagWash.UNKNOWN);
        Check.due("see(-1, 16, 32)", wash.see(-1, 16, 32), FlagWash.UNKNOWN);
        Check.due("see(0, 16, 0)", wash.see(0, 16, 0), FlagWash.OUTSIDE);
        Check.due("see(0, -1, 0)", wash.see(0, -1, 0), FlagWash.OUTSIDE);
        Check.due("see(0, 0, 32)", wash.see(0, 0, 32), FlagWash.OUTSIDE);
        Check.due("see(0, 0, -2)", wash.see(0, 0, -2), FlagWash.OUTSIDE);
        Check.due("see(0, 0, 1), itself", wash.see(0, 0, 1), FlagWash.OUTSIDE);
        Check.due("see(1, 0, 3), itself", wash.see(1, 0, 3), FlagWash.OUTSIDE);
        Check.due("count(9)", wash.count(9), 0);
        Check.due("see(0, 0, 30)", wash.see(0, 0, 30), 1);
        Check.due("see(1, 15, 29)", wash.see(1, 15, 29), 2);
        for (int i = 3; i <= 6; i++) {
            Check.due("see(0, 3, 2)", wash.see(0, 3, 2), i);
        }
        Check.due("see(0, 3, 2)", wash.see(0, 3, 2), FlagWash.FULL);
        Check.due("see(0, 16, 2)", wash.see(0, 16, 2), FlagWash.OUTSIDE);
        Check.due("see(2, 3, 2)", wash.see(2, 3, 2), FlagWash.UNKNOWN);
        Check.due("count(9)", wash.count(9), 6);
        Check.due("count(8)", wash.count(8), 0);
    }

    private static void promise19Unsee() {
        FlagWash wash = Check.laundry("U110Fb01Fc01");
        Check.due("unsee()", wash.unsee(), 0);
        wash.see(0, 3, 2);
        wash.see(0, 1, 0);
        Check.due("unsee()", wash.unsee(), 2);
        Check.due("unsee()", wash.unsee(), 0);
        Check.due("count(9)", wash.count(9), 0);
        Check.due("had(0, 0)", wash.had(0, 0), 16);
        Check.due("see(0, 3, 2)", wash.see(0, 3, 2), 1);
    }

    private static void promise20Had() {
        FlagWash wash = Check.laundry("U110Fb01Fc01Fe01");
        Check.due("had(3, 0)", wash.had(3, 0), FlagWash.UNKNOWN);
        Check.due("had(3, 3)", wash.had(3, 3), FlagWash.UNKNOWN);
        Check.due("had(0, 3)", wash.had(0, 3), FlagWash.OUTSIDE);
        Check.due("had(0, -1)", wash.had(0, -1), FlagWash.OUTSIDE);
        dueHad(wash, 0, 16, 0, 0);
        wash.see(0, 15, 6);
        // Of the four colours 2 and 4 may have run into it: 9, 11, 13, 15.
        dueHad(wash, 0, 4, 9, 0);
        dueHad(wash, 1, 16, 0, 0);
        wash.see(1, 7, 5);
        dueHad(wash, 1, 4, 2, 8);
        dueHad(wash, 0, 4, 9, 0);
        wash.see(0, 11, 2);
        dueHad(wash, 0, 2, 9, 4);
        wash.see(0, 9, 0);
        dueHad(wash, 0, 1, 9, 6);
        wash.see(0, 8, 0);
        dueHad(wash, 0, 0, FlagWash.NONE, FlagWash.NONE);
        wash.see(2, 0, 1);
        dueHad(wash, 2, 0, FlagWash.NONE, FlagWash.NONE);
        wash.unsee();
        wash.see(0, 15, 0);
        wash.see(1, 0, 0);
        dueHad(wash, 0, 1, 15, 0);
        dueHad(wash, 1, 1, 0, 15);
    }

    private static void promise20OthersAsNow() {
        FlagWash wash = Check.laundry("U310Fb01Fc01Fe31");
        wash.see(0, 6, 2);
        dueHad(wash, 0, 2, 4, 9);
        wash.send(1);
        wash.send(2);
        wash.hour();
        dueHad(wash, 0, 4, 0, 9);
        wash.undo();
        dueHad(wash, 0, 2, 4, 9);
    }

    private static void promise20FlagsThatAreGone() {
        FlagWash wash = Check.laundry("U110Fb01Fc01Fe01");
        wash.see(0, 7, 4);
        wash.see(2, 4, 0);
        wash.see(0, 3, 2);
        dueHad(wash, 0, 1, 3, 12);
        Check.makeAnew(wash, "U110Fb01Fc01");
        // Flag 2 is gone: what was seen with it is not looked at.
        dueHad(wash, 0, 2, 1, 12);
        Check.due("had(2, 0)", wash.had(2, 0), FlagWash.UNKNOWN);
        Check.due("count(9)", wash.count(9), 3);
        Check.makeAnew(wash, "U110Fb01Fc01Fg01");
        dueHad(wash, 0, 2, 1, 12);
        dueHad(wash, 2, 1, 4, 11);
        wash.see(0, 15, 16);
        dueHad(wash, 0, 2, 1, 12);
    }

    private static void dueHad(FlagWash wash, int flag, int howMany, int inAll, int inNone) {
        Check.due("had(" + flag + ", 0)", wash.had(flag, 0), howMany);
        Check.due("had(" + flag + ", 1)", wash.had(flag, 1), inAll);
        Check.due("had(" + flag + ", 2)", wash.had(flag, 2), inNone);
    }
}
