/** Edges of promises 26 to 28, one test for each sentence of the document that names one. */
public final class SlotsBoundsTest {
    private static final int[] NO_SLOTS = {-1, 2, 3, 32, -32, Integer.MIN_VALUE, Integer.MAX_VALUE};

    public static void main(String[] args) {
        keepUnknown();
        keepFirstAndLast();
        keepOver();
        againOrderOfRefusals();
        againNoneWereKept();
        againAllThatIsKept();
        againWhatIsNotKept();
        againEmptiesTheRow();
        againAsOften();
        countOutside();
        countEmptyAndFull();
        countChangesNothing();
        Check.end();
    }

    /** Slot 1 is kept, slot 0 is not. */
    private static void busy(FlagWash wash) {
        Check.makeAnew(wash, "U211Fb02Fe33Fa21H01H21");
        wash.send(0);
        wash.hour();
        wash.keep(1);
        wash.send(1);
        wash.hour();
        wash.wind(0);
        wash.see(0, 5, 2);
        wash.seed(77);
    }

    private static void keepUnknown() {
        Check.sentence("26: UNKNOWN (SLOTS 0 to 1)");
        for (int slot : NO_SLOTS) {
            Twins.refused("keep(" + slot + ")", SlotsBoundsTest::busy, w -> w.keep(slot), FlagWash.UNKNOWN);
            Check.due("keep(" + slot + ") of a new object", new FlagWash().keep(slot), FlagWash.UNKNOWN);
        }
    }

    private static void keepFirstAndLast() {
        Check.sentence("26: They are kept: THE HOUR");
        FlagWash fresh = new FlagWash();
        Check.due("keep(0) of a new object", fresh.keep(0), 0);
        Check.due("keep(1) of a new object", fresh.keep(1), 0);
        Check.due("again(1)", fresh.again(1), 0);
        FlagWash wash = new FlagWash();
        busy(wash);
        Check.due("keep(0)", wash.keep(0), 2);
        Check.due("count(8), no act", wash.count(8), 5);
        wash.hour();
        Check.due("again(1), by itself", wash.again(1), 1);
        Check.due("again(0), by itself", wash.again(0), 2);
    }

    private static void keepOver() {
        Check.sentence("26: They are kept: over what was kept");
        FlagWash wash = new FlagWash();
        busy(wash);
        Check.due("keep(1)", wash.keep(1), 2);
        wash.hour();
        Check.due("again(1)", wash.again(1), 2);
        Check.due("flag(1, 3)", wash.flag(1, 3), 1);
        Check.due("again(0)", wash.again(0), FlagWash.STATE);
    }

    private static void againOrderOfRefusals() {
        Check.sentence("27: UNKNOWN; STATE: none were kept");
        for (int slot : NO_SLOTS) {
            Twins.refused("again(" + slot + ")", SlotsBoundsTest::busy, w -> w.again(slot), FlagWash.UNKNOWN);
            Check.due("again(" + slot + ") of a new object", new FlagWash().again(slot), FlagWash.UNKNOWN);
        }
    }

    private static void againNoneWereKept() {
        Check.sentence("27: STATE: none were kept");
        Twins.refused("again(0)", SlotsBoundsTest::busy, w -> w.again(0), FlagWash.STATE);
        for (int slot = 0; slot <= 1; slot++) {
            int asked = slot;
            Twins.refused("again(" + slot + ") of a new object", w -> { }, w -> w.again(asked), FlagWash.STATE);
            Twins.refused("again(" + slot + ") of a laundry made anew", w -> {
                busy(w);
                w.keep(0);
                w.laundry();
                w.hour();
            }, w -> w.again(asked), FlagWash.STATE);
        }
    }

    private static void againAllThatIsKept() {
        Check.sentence("3: SLOTS keep where FLAGS are, how wet, COLOURS, WIND, THE HOUR");
        FlagWash wash = Check.laundry("U341Fb21Fc34Fe04Fi12");
        wash.send(0);
        wash.hour();
        wash.send(1);
        wash.send(2);
        wash.hour();
        wash.send(3);
        wash.wind(2);
        Check.due("keep(0)", wash.keep(0), 2);
        Check.due("again(0)", wash.again(0), 2);
        String kept = Check.told(wash);
        Check.dueFlag(wash, 0, 1, 0, 0);
        Check.dueFlag(wash, 2, 6, 1, 3);
        wash.wind(0);
        for (int i = 0; i < 4; i++) {
            wash.hour();
        }
        wash.pull(1);
        wash.send(0);
        wash.send(1);
        Check.due("again(0)", wash.again(0), 2);
        Check.dueTrue("as kept", Check.told(wash).equals(kept));
        FlagWash line = Check.laundry("U110Fb11");
        line.send(0);
        line.hour();
        line.hour();
        line.keep(1);
        line.hour();
        line.again(1);
        Check.dueFlag(line, 0, 1, 2, 5);
    }

    private static void againWhatIsNotKept() {
        Check.sentence("3: SLOTS keep nothing else: THE TEXT, SEEN, THE SEED, the other slot");
        FlagWash wash = new FlagWash();
        busy(wash);
        wash.keep(0);
        wash.see(1, 4, 0);
        wash.seed(9);
        wash.write('F');
        wash.hour();
        Check.due("again(0)", wash.again(0), 2);
        Check.due("count(0)", wash.count(0), 23);
        Check.due("fault()", wash.fault(), 23);
        Check.due("count(9)", wash.count(9), 2);
        Check.due("seed(1)", wash.seed(1), 9);
        Check.due("again(1)", wash.again(1), 1);
    }

    private static void againEmptiesTheRow() {
        Check.sentence("3: THE ROW of ACTS is empty when one goes on");
        FlagWash wash = new FlagWash();
        busy(wash);
        Check.due("count(8)", wash.count(8), 5);
        Check.due("again(1)", wash.again(1), 1);
        Check.due("count(8)", wash.count(8), 0);
        Check.due("undo()", wash.undo(), FlagWash.STATE);
        for (int i = 1; i <= 15; i++) {
            wash.hour();
            Check.due("count(8)", wash.count(8), Math.min(i, 14));
        }
        Check.due("again(1), the row was full", wash.again(1), 1);
        Check.due("undo()", wash.undo(), FlagWash.STATE);
        wash.hour();
        Check.due("undo()", wash.undo(), 0);
        Check.due("count(7)", wash.count(7), 1);
    }

    private static void againAsOften() {
        Check.sentence("27: They are as they were kept: once more");
        FlagWash wash = new FlagWash();
        busy(wash);
        for (int i = 0; i < 20; i++) {
            Check.due("again(1)", wash.again(1), 1);
            Check.dueFlag(wash, 0, 1, 1, 1);
            Check.dueFlag(wash, 1, 4, 0, 0);
            Check.due("count(4)", wash.count(4), 1);
            wash.send(1);
            wash.wind(2);
            wash.hour();
            wash.undo();
            wash.hour();
            Check.dueFlag(wash, 0, 5, 2, 4);
        }
        Check.due("again(0)", wash.again(0), FlagWash.STATE);
    }

    private static void countOutside() {
        Check.sentence("28: OUTSIDE");
        for (int what : new int[] {-1, 10, 11, 32, -32, Integer.MIN_VALUE, Integer.MAX_VALUE}) {
            Twins.refused("count(" + what + ")", SlotsBoundsTest::busy, w -> w.count(what), FlagWash.OUTSIDE);
            Check.due("count(" + what + ") of a new object", new FlagWash().count(what), FlagWash.OUTSIDE);
        }
    }

    private static void countEmptyAndFull() {
        Check.sentence("28: 0 letters of THE TEXT, .. 9 SEEN");
        Check.dueCounts("empty", new FlagWash(), 0, 0, 1, 1, 0, 0, 0, 0, 0, 0);
        FlagWash wash = Check.laundry("U341Fa14Fa14Fa14Fa14Fa14H01H02H03H04H12H13H14H23");
        Check.dueCounts("full text", wash, 48, 5, 3, 4, 1, 31, 8, 0, 0, 0);
        wash.wind(2);
        for (int flag = 2; flag < 5; flag++) {
            wash.send(flag);
        }
        for (int i = 1; i <= 6; i++) {
            wash.see(0, 0, 0);
        }
        Check.dueCounts("tubs are full", wash, 48, 5, 0, 4, 2, 3, 1, 0, 4, 6);
        for (int i = 0; i < 4; i++) {
            wash.hour();
        }
        Check.dueCounts("three on the line", wash, 48, 5, 3, 1, 2, 3, 1, 4, 8, 6);
        wash.send(0);
        wash.send(1);
        Check.dueCounts("none at home", wash, 48, 5, 1, 1, 2, 0, 0, 4, 10, 6);
        wash.hour();
        Check.dueCounts("an hour", wash, 48, 5, 1, 1, 2, 0, 0, 5, 11, 6);
        wash.hour();
        Check.dueCounts("three are home", wash, 48, 5, 1, 4, 2, 28, 1, 6, 12, 6);
        for (int i = 0; i < 4; i++) {
            wash.hour();
        }
        Check.dueCounts("the row is full", wash, 48, 5, 3, 4, 2, 31, 8, 10, 14, 6);
    }

    private static void countChangesNothing() {
        Check.sentence("What is asked changes nothing: 28");
        for (int what = 0; what <= 9; what++) {
            int asked = what;
            Twins.changesNothing("count(" + what + ")", SlotsBoundsTest::busy, w -> w.count(asked));
        }
    }
}
