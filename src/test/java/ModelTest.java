import java.util.Random;

/** Random runs of calls, all promises together: the program answers as the model does. */
public final class ModelTest {
    private static final int RUNS = 1000;
    private static final int CALLS = 512;
    private static final String LETTERS = "UFHabcdefghijklmnop01234";

    private final Random random;
    private final FlagWash wash = new FlagWash();
    private final Model model = new Model();
    private final StringBuilder told = new StringBuilder();
    private int calls = 0;

    private ModelTest(long seed) {
        random = new Random(seed);
    }

    public static void main(String[] args) {
        for (int run = 0; run < RUNS && !Check.anyWrong(); run++) {
            ModelTest test = new ModelTest(run);
            test.run();
            if (Check.anyWrong()) {
                System.out.println("run " + run + ":" + test.told);
            }
        }
        Check.end();
    }

    private void run() {
        if (random.nextInt(10) > 0) {
            writeText();
        }
        while (calls < CALLS && !Check.anyWrong()) {
            int kind = random.nextInt(400);
            if (kind == 0) {
                writeText();
            } else if (kind < 200) {
                act();
            } else {
                ask(random.nextInt(16));
            }
        }
    }

    private void same(String call, long got, long want) {
        calls++;
        told.append(' ').append(call).append(" = ").append(want).append(';');
        Check.due(call, got, want);
    }

    private void writeText() {
        same("wipe()", wash.wipe(), model.wipe());
        for (char letter : text().toCharArray()) {
            same("write(" + (int) letter + ")", wash.write(letter), model.write(letter));
        }
        same("fault()", wash.fault(), model.fault());
        same("laundry()", wash.laundry(), model.laundry());
    }

    private String text() {
        StringBuilder text = new StringBuilder("U");
        text.append(1 + random.nextInt(3)).append(1 + random.nextInt(4)).append(random.nextInt(3));
        int flags = random.nextInt(6);
        for (int i = 0; i < flags; i++) {
            text.append('F').append((char) ('a' + random.nextInt(16)));
            text.append(random.nextInt(4)).append(1 + random.nextInt(4));
            if (random.nextInt(8) == 0) {
                appendFoes(text, i + 1);
            }
        }
        int foes = random.nextInt(9);
        for (int i = 0; i < foes && flags > 1; i++) {
            appendFoes(text, flags);
        }
        if (random.nextInt(4) == 0) {
            spoil(text);
        }
        return text.toString();
    }

    /** Mostly a pair that is not told yet. */
    private void appendFoes(StringBuilder text, int flags) {
        int a = random.nextInt(flags);
        int b = random.nextInt(flags);
        boolean fits = a != b && text.indexOf("H" + a + b) < 0 && text.indexOf("H" + b + a) < 0;
        if (fits || random.nextInt(60) == 0) {
            text.append('H').append(a).append(b);
        }
    }

    private void spoil(StringBuilder text) {
        int place = random.nextInt(text.length());
        switch (random.nextInt(3)) {
            case 0 -> text.setLength(place);
            case 1 -> text.setCharAt(place, LETTERS.charAt(random.nextInt(LETTERS.length())));
            default -> text.append(LETTERS.charAt(random.nextInt(LETTERS.length())));
        }
    }

    /** From one below the least to one above the greatest. */
    private int near(int least, int greatest) {
        if (random.nextInt(300) == 0) {
            return random.nextInt();
        }
        return least - 1 + random.nextInt(greatest - least + 3);
    }

    private int aFlag() {
        return random.nextInt(20) == 0 ? near(0, 4) : random.nextInt(5);
    }

    private void act() {
        int flag = aFlag();
        switch (random.nextInt(14)) {
            case 0, 1, 2, 3 -> same("send(" + flag + ")", wash.send(flag), model.send(flag));
            case 4 -> same("pull(" + flag + ")", wash.pull(flag), model.pull(flag));
            case 5, 6, 7, 8, 9 -> same("hour()", wash.hour(), model.hour());
            case 10 -> {
                int wind = near(0, 2);
                same("wind(" + wind + ")", wash.wind(wind), model.wind(wind));
            }
            case 11 -> same("undo()", wash.undo(), model.undo());
            case 12 -> {
                int slot = near(0, 1);
                same("keep(" + slot + ")", wash.keep(slot), model.keep(slot));
            }
            default -> {
                int slot = near(0, 1);
                if (random.nextInt(4) == 0) {
                    same("again(" + slot + ")", wash.again(slot), model.again(slot));
                }
            }
        }
    }

    private void ask(int question) {
        int flag = aFlag();
        int other = aFlag();
        boolean either = random.nextBoolean();
        String two = flag + ", " + other;
        switch (question) {
            case 0 -> same("peace(" + two + ")", wash.peace(flag, other), model.peace(flag, other));
            case 1 -> same("quiet()", wash.quiet(), model.quiet());
            case 2 -> same("sending(" + either + ")", wash.sending(either), model.sending(either));
            case 3 -> same("cover()", wash.cover(), model.cover());
            case 4 -> {
                int colours = near(0, 15);
                same("ran(" + flag + ", " + colours + ")", wash.ran(flag, colours), model.ran(flag, colours));
            }
            case 5 -> askJudge();
            case 6 -> askSee(flag);
            case 7, 8 -> {
                int what = near(0, 2);
                same("had(" + flag + ", " + what + ")", wash.had(flag, what), model.had(flag, what));
            }
            case 9 -> same("share(" + flag + ", " + either + ")", wash.share(flag, either), model.share(flag, either));
            case 10 -> {
                int what = near(0, 1);
                same("rests(" + two + ", " + what + ")", wash.rests(flag, other, what), model.rests(flag, other, what));
            }
            case 11 -> {
                int n = near(1, 6);
                int x = near(0, 10);
                String all = flag + ", " + n + ", " + x + ", " + either;
                same("dry(" + all + ")", wash.dry(flag, n, x, either), model.dry(flag, n, x, either));
            }
            case 12 -> {
                long v = random.nextInt(3) == 0 ? random.nextInt(10) : random.nextLong();
                same("seed(" + v + ")", wash.seed(v), model.seed(v));
            }
            case 13 -> {
                int m = near(1, 30);
                same("weeks(" + m + ")", wash.weeks(m), model.weeks(m));
            }
            case 14 -> {
                int what = near(0, 9);
                same("count(" + what + ")", wash.count(what), model.count(what));
            }
            default -> {
                int what = near(0, 5);
                same("flag(" + flag + ", " + what + ")", wash.flag(flag, what), model.flag(flag, what));
            }
        }
    }

    private void askJudge() {
        int n = near(1, 6);
        int row = 0;
        for (int i = 0; i < Math.min(n, 6); i++) {
            int figure = random.nextBoolean() ? 0 : random.nextInt(10);
            row = row * 10 + figure;
        }
        if (random.nextInt(10) == 0) {
            row = near(0, 1000000);
        }
        same("judge(" + n + ", " + row + ")", wash.judge(n, row), model.judge(n, row));
    }

    /** What is seen is mostly what could be, else HAD would soon be nothing. */
    private void askSee(int flag) {
        if (random.nextInt(12) == 0) {
            same("unsee()", wash.unsee(), model.unsee());
            return;
        }
        int with = near(0, 31);
        int colours = near(0, 15);
        if (random.nextInt(4) > 0 && flag >= 0 && flag < 5) {
            with &= 31 & ~(1 << flag);
            colours = random.nextInt(16);
            for (int i = 0; i < model.count(1); i++) {
                colours |= (with >> i & 1) == 1 ? model.flag(i, 0) : 0;
            }
        }
        String all = flag + ", " + colours + ", " + with;
        same("see(" + all + ")", wash.see(flag, colours, with), model.see(flag, colours, with));
    }
}
