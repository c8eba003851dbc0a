import java.util.function.Consumer;
import java.util.function.ToLongFunction;

/** Two objects of the same calls, one of which is asked one thing more: does it show in anything later? */
final class Twins {
    private Twins() {
    }

    static void refused(String call, Consumer<FlagWash> before, ToLongFunction<FlagWash> made, long want) {
        FlagWash asked = new FlagWash();
        before.accept(asked);
        Check.due(call, made.applyAsLong(asked), want);
        dueSameAs(call, asked, before);
    }

    static void changesNothing(String call, Consumer<FlagWash> before, ToLongFunction<FlagWash> made) {
        FlagWash asked = new FlagWash();
        before.accept(asked);
        long answer = made.applyAsLong(asked);
        Check.due(call + " once more", made.applyAsLong(asked), answer);
        dueSameAs(call, asked, before);
    }

    private static void dueSameAs(String call, FlagWash asked, Consumer<FlagWash> before) {
        FlagWash twin = new FlagWash();
        before.accept(twin);
        String want = whole(twin);
        String got = whole(asked);
        Check.dueTrue(call + " changes nothing:\n got " + got + "\nwant " + want + "\n", want.equals(got));
    }

    /** All that the object holds, the row, the slots and the seed too; it is used up by this. */
    static String whole(FlagWash wash) {
        StringBuilder told = new StringBuilder(Check.told(wash));
        told.append(" seed ").append(wash.seed(0));
        int left = 0;
        for (int i = 0; i <= 14 && left >= 0; i++) {
            left = wash.undo();
            told.append(" undo ").append(left);
            appendMoment(told, wash);
        }
        for (int slot = 0; slot <= 1; slot++) {
            told.append(" again ").append(wash.again(slot));
            appendMoment(told, wash);
        }
        told.append(" laundry ").append(wash.laundry()).append(' ').append(Check.told(wash));
        return told.append(" wipe ").append(wash.wipe()).toString();
    }

    private static void appendMoment(StringBuilder told, FlagWash wash) {
        told.append(" (").append(wash.count(4)).append(' ').append(wash.count(7));
        int flags = wash.count(1);
        for (int flag = 0; flag < flags; flag++) {
            told.append(' ').append(wash.flag(flag, 0)).append(',').append(wash.flag(flag, 3));
            told.append(',').append(wash.flag(flag, 4));
        }
        told.append(')');
    }
}
