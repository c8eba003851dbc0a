/** Promises 12 to 17: peace, quiet, sending, cover, ran, judge. */
public final class PeaceTest {
    public static void main(String[] args) {
        promise12Peace();
        promise12LongPeace();
        promise13Quiet();
        promise14Sending();
        promise14LikeOnes();
        promise15Cover();
        promise16Ran();
        promise17Judge();
        nothingIsChanged();
        Check.end();
    }

    private static void promise12Peace() {
        FlagWash wash = Check.laundry("U211Fa02Fa13Fa21H01H21");
        Check.due("peace(3, 0)", wash.peace(3, 0), FlagWash.UNKNOWN);
        Check.due("peace(0, 3)", wash.peace(0, 3), FlagWash.UNKNOWN);
        Check.due("peace(3, 3)", wash.peace(3, 3), FlagWash.UNKNOWN);
        Check.due("peace(-1, 0)", wash.peace(-1, 0), FlagWash.UNKNOWN);
        Check.due("peace(1, 1)", wash.peace(1, 1), FlagWash.OUTSIDE);
        Check.due("peace(0, 1)", wash.peace(0, 1), 0);
        Check.due("peace(0, 2)", wash.peace(0, 2), FlagWash.NONE);
        wash.send(0);
        // 2 hours in the tub, 4 wet with a wind of 1.
        Check.due("peace(0, 1)", wash.peace(0, 1), 4);
        Check.due("peace(1, 0)", wash.peace(1, 0), 4);
        Check.due("peace(1, 2)", wash.peace(1, 2), 0);
        wash.send(1);
        // It waits an hour for the peg: 4 hours, then 6 wet.
        Check.due("peace(0, 1)", wash.peace(0, 1), 7);
        Check.due("peace(2, 1)", wash.peace(2, 1), 7);
        wash.wind(2);
        Check.due("peace(0, 1)", wash.peace(0, 1), 6);
        wash.hour();
        Check.due("peace(0, 1)", wash.peace(0, 1), 5);
    }

    private static void promise12LongPeace() {
        FlagWash wash = Check.laundry("U310Fa11Fa11Fa11Fa11Fa11H34H04");
        wash.send(0);
        wash.hour();
        wash.send(1);
        wash.send(2);
        wash.send(3);
        Check.due("peace(3, 4)", wash.peace(3, 4), 24);
        Check.due("peace(0, 4)", wash.peace(0, 4), 6);
        Check.due("quiet()", wash.quiet(), 6);
    }

    private static void promise13Quiet() {
        Check.due("quiet() of a new object", new FlagWash().quiet(), FlagWash.NONE);
        Check.due("quiet() of friends", Check.laundry("U110Fa01Fa01").quiet(), FlagWash.NONE);
        FlagWash wash = Check.laundry("U220Fa02Fa13Fa21H01H21");
        Check.due("quiet()", wash.quiet(), 0);
        wash.send(0);
        Check.due("quiet()", wash.quiet(), 0);
        wash.send(1);
        Check.due("quiet()", wash.quiet(), 9);
        wash.hour();
        Check.due("quiet()", wash.quiet(), 8);
        wash.pull(1);
        Check.due("quiet()", wash.quiet(), 0);
    }

    private static void promise14Sending() {
        FlagWash none = new FlagWash();
        Check.due("sending(false)", none.sending(false), 0);
        Check.due("sending(true)", none.sending(true), FlagWash.NONE);
        FlagWash wash = Check.laundry("U120Fa01Fa14Fa21H01H12");
        Check.due("sending(false)", wash.sending(false), 2);
        Check.due("sending(true)", wash.sending(true), 10);
        wash.send(0);
        // No tub is free: none can be sent.
        Check.due("sending(false)", wash.sending(false), 0);
        Check.due("sending(true)", wash.sending(true), 0);
        wash.hour();
        Check.due("sending(false)", wash.sending(false), 2);
        Check.due("sending(true)", wash.sending(true), 10);
        wash.send(1);
        // What is washed already is not sent.
        Check.due("sending(false)", wash.sending(false), 0);
        Check.due("sending(true)", wash.sending(true), 10);
    }

    private static void promise14LikeOnes() {
        FlagWash least = Check.laundry("U110Fa01Fa01H01");
        Check.due("sending(false)", least.sending(false), 1);
        Check.due("sending(true)", least.sending(true), 5);
        FlagWash fewest = Check.laundry("U340Fa11Fa21Fa21Fa01H01H02");
        Check.due("sending(false)", fewest.sending(false), 1);
        Check.due("sending(true)", fewest.sending(true), 7);
        FlagWash friends = Check.laundry("U340Fa11Fa21");
        Check.due("sending(false)", friends.sending(false), 0);
        Check.due("sending(true)", friends.sending(true), FlagWash.NONE);
        // By waiting for the peg both together are longer in the wash.
        FlagWash both = Check.laundry("U210Fa11Fa11Fa01H12");
        Check.due("sending(false)", both.sending(false), 3);
        Check.due("sending(true)", both.sending(true), 13);
        FlagWash three = Check.laundry("U310Fa11Fa11Fa11Fa11H23");
        Check.due("sending(false)", three.sending(false), 7);
        Check.due("sending(true)", three.sending(true), 19);
    }

    private static void promise15Cover() {
        Check.due("cover() of a new object", new FlagWash().cover(), 0);
        FlagWash wash = Check.laundry("U340Fa11Fa11Fa11Fa11Fa11H01H12H23H34");
        Check.due("cover()", wash.cover(), 10);
        wash.send(3);
        Check.due("cover()", wash.cover(), 2);
        wash.send(1);
        Check.due("cover()", wash.cover(), 0);
        wash.pull(3);
        Check.due("cover()", wash.cover(), 8);
        FlagWash ring = Check.laundry("U340Fa11Fa11Fa11Fa11Fa11H01H12H20H34");
        Check.due("cover()", ring.cover(), 11);
        ring.send(0);
        Check.due("cover()", ring.cover(), 10);
        FlagWash star = Check.laundry("U110Fa11Fa11Fa11H20H21");
        Check.due("cover()", star.cover(), 4);
    }

    private static void promise16Ran() {
        FlagWash wash = Check.laundry("U340Fb01Fc01Fd01Fe31Fh01");
        Check.due("ran(5, 0)", wash.ran(5, 0), FlagWash.UNKNOWN);
        Check.due("ran(-1, 16)", wash.ran(-1, 16), FlagWash.UNKNOWN);
        Check.due("ran(0, 16)", wash.ran(0, 16), FlagWash.OUTSIDE);
        Check.due("ran(0, -1)", wash.ran(0, -1), FlagWash.OUTSIDE);
        Check.due("ran(0, 1)", wash.ran(0, 1), 0);
        Check.due("ran(0, 0)", wash.ran(0, 0), FlagWash.NONE);
        Check.due("ran(0, 2)", wash.ran(0, 2), FlagWash.NONE);
        Check.due("ran(0, 3)", wash.ran(0, 3), 2);
        Check.due("ran(0, 7)", wash.ran(0, 7), 16);
        Check.due("ran(4, 7)", wash.ran(4, 7), 0);
        Check.due("ran(0, 15)", wash.ran(0, 15), FlagWash.NONE);
        Check.due("ran(1, 6)", wash.ran(1, 6), 8);
        FlagWash two = Check.laundry("U340Fa01Fb01Fc01Fb01Fc01");
        Check.due("ran(0, 3)", two.ran(0, 3), 6);
        // Colours are looked at as they are now.
        wash.send(0);
        wash.send(3);
        wash.hour();
        Check.due("ran(0, 5)", wash.ran(0, 5), 0);
        Check.due("ran(1, 7)", wash.ran(1, 7), 1);
    }

    private static void promise17Judge() {
        FlagWash none = new FlagWash();
        Check.due("judge(0, 0)", none.judge(0, 0), FlagWash.OUTSIDE);
        Check.due("judge(7, 0)", none.judge(7, 0), FlagWash.OUTSIDE);
        Check.due("judge(1, -1)", none.judge(1, -1), FlagWash.OUTSIDE);
        Check.due("judge(1, 10)", none.judge(1, 10), FlagWash.OUTSIDE);
        Check.due("judge(6, 1000000)", none.judge(6, 1000000), FlagWash.OUTSIDE);
        Check.due("judge(6, greatest)", none.judge(6, Integer.MAX_VALUE), FlagWash.OUTSIDE);
        Check.due("judge(6, 0)", none.judge(6, 0), FlagWash.NONE);
        Check.due("judge(6, 999999)", none.judge(6, 999999), 0);
        Check.due("judge(6, 1)", none.judge(6, 1), 5);
        FlagWash wash = Check.laundry("U110Fa21Fa21Fa21Fa21Fa21");
        Check.due("judge(1, 5)", wash.judge(1, 5), FlagWash.NONE);
        Check.due("judge(1, 6)", wash.judge(1, 6), 0);
        Check.due("judge(2, 16)", wash.judge(2, 16), FlagWash.NONE);
        Check.due("judge(2, 49)", wash.judge(2, 49), FlagWash.NONE);
        Check.due("judge(2, 17)", wash.judge(2, 17), 1);
        Check.due("judge(2, 11)", wash.judge(2, 11), 1);
        Check.due("judge(3, 5)", wash.judge(3, 5), FlagWash.NONE);
        Check.due("judge(3, 102)", wash.judge(3, 102), FlagWash.NONE);
        Check.due("judge(4, 1006)", wash.judge(4, 1006), FlagWash.NONE);
        Check.due("judge(5, 10006)", wash.judge(5, 10006), 4);
        Check.due("judge(6, 102020)", wash.judge(6, 102020), 4);
        Check.due("judge(6, 162738)", wash.judge(6, 162738), FlagWash.NONE);
        wash.send(2);
        Check.due("judge(1, 1)", wash.judge(1, 1), 0);
        Check.due("judge(2, 81)", wash.judge(2, 81), FlagWash.NONE);
    }

    private static void nothingIsChanged() {
        FlagWash wash = Check.laundry("U211Fb02Fe33Fa21H01H21");
        wash.send(0);
        wash.send(1);
        wash.hour();
        String before = Check.told(wash);
        wash.peace(0, 1);
        wash.quiet();
        wash.sending(false);
        wash.sending(true);
        wash.cover();
        wash.ran(0, 15);
        wash.judge(6, 60003);
        wash.share(0, true);
        wash.rests(0, 1, 0);
        wash.weeks(30);
        Check.dueTrue("questions change nothing", before.equals(Check.told(wash)));
        Check.due("undo()", wash.undo(), 2);
    }
}
