/** What the tests share: answers that are due, and laundries made of a text. */
final class Check {
    private static int wrong = 0;
    private static int looked = 0;
    private static String sentence = "";

    private Check() {
    }

    static void due(String call, long got, long want) {
        looked++;
        if (got != want) {
            wrong++;
            System.out.println(sentence + call + " answered " + got + ", due is " + want);
        }
    }

    /** The document's words that the answers behind this are looked at for; told with each wrong one. */
    static void sentence(String words) {
        sentence = "'" + words + "': ";
    }

    static void dueTrue(String what, boolean holds) {
        due(what, holds ? 1 : 0, 1);
    }

    static boolean anyWrong() {
        return wrong > 0;
    }

    static void end() {
        System.out.println(looked + " answers looked at, " + wrong + " wrong");
        if (wrong > 0 || looked == 0) {
            System.exit(1);
        }
    }

    static void write(FlagWash wash, String text) {
        wash.wipe();
        for (int i = 0; i < text.length(); i++) {
            due("write of " + text + " at " + i, wash.write(text.charAt(i)), i + 1);
        }
    }

    static FlagWash laundry(String text) {
        FlagWash wash = new FlagWash();
        makeAnew(wash, text);
        return wash;
    }

    static void makeAnew(FlagWash wash, String text) {
        write(wash, text);
        int flags = 0;
        for (int i = 0; i < text.length(); i++) {
            flags += text.charAt(i) == 'F' ? 1 : 0;
        }
        due("laundry of " + text, wash.laundry(), flags);
    }

    static void dueFault(String text, int want) {
        FlagWash wash = new FlagWash();
        write(wash, text);
        due("fault of '" + text + "'", wash.fault(), want);
        due("fault of '" + text + "' once more", wash.fault(), want);
        if (want == FlagWash.NONE) {
            dueTrue("laundry of '" + text + "'", wash.laundry() >= 0);
        } else {
            due("laundry of '" + text + "'", wash.laundry(), FlagWash.STATE);
        }
    }

    /** One flag: its colours, where it is, what is left. */
    static void dueFlag(FlagWash wash, int flag, int colours, int where, int left) {
        due("flag(" + flag + ", 0)", wash.flag(flag, 0), colours);
        due("flag(" + flag + ", 3)", wash.flag(flag, 3), where);
        due("flag(" + flag + ", 4)", wash.flag(flag, 4), left);
    }

    static void dueCounts(String when, FlagWash wash, int... wants) {
        for (int i = 0; i < wants.length; i++) {
            due(when + ": count(" + i + ")", wash.count(i), wants[i]);
        }
    }

    /** All that can be told of an object without changing it. */
    static String told(FlagWash wash) {
        StringBuilder told = new StringBuilder();
        for (int what = 0; what <= 9; what++) {
            told.append(wash.count(what)).append(' ');
        }
        for (int flag = 0; flag < 5; flag++) {
            for (int what = 0; what <= 5; what++) {
                told.append(wash.flag(flag, what)).append(' ');
            }
            for (int what = 0; what <= 2; what++) {
                told.append(wash.had(flag, what)).append(' ');
            }
        }
        return told.append(wash.fault()).toString();
    }
}
