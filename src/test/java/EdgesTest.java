import java.util.function.ToLongFunction;

/** Every call with every mixture of numbers at and around the limits, in several states, as the model answers. */
public final class EdgesTest {
    private static final int[] FEW = {Integer.MIN_VALUE, -32, -1, 0, 1, 2, 3, 4, 5, 6, 7, 31, 32, Integer.MAX_VALUE};
    private static final int[] MANY = {Integer.MIN_VALUE, Integer.MIN_VALUE + 1, -256, -33, -32, -31, -10, -9, -2, -1,
        0, 1, 2, 3, 4, 5, 6, 7, 8, 9, 10, 11, 14, 15, 16, 17, 29, 30, 31, 32, 33, 40, 41, 47, 48, 49, 63, 64, 99, 100,
        254, 255, 256, 257, 999999, 1000000, 1000001, Integer.MAX_VALUE - 1, Integer.MAX_VALUE};
    private static final int[] ROWS = {Integer.MIN_VALUE, -1, 0, 1, 6, 9, 10, 11, 16, 99, 100, 101, 999, 1000, 1006,
        9999, 10000, 10006, 99999, 100000, 162738, 999999, 1000000, Integer.MAX_VALUE};

    /** Text, then calls: s send, p pull, h hour, w wind, k keep, v see, each with its number. */
    private static final String[][] STATES = {
        {"", ""},
        {"U110", "h0 w2"},
        {"U110Fb11", "s0 h0 v0"},
        {"U211Fb11Fe34Fa21H01H21", "k1 s0 s1 h0 w0 v0 v0"},
        {"U342Fb01Fc31Fe21Fi14Fp02H01H12H23H34H40", "s0 s1 s2 h0 k0 s4 s3 h0 v0 v0 v0 v0 v0 v0"},
        {"U310Fa11Fa11Fa11Fa11Fa11H01H02H03H04H12H13H14H23",
            "h0 h0 h0 h0 h0 h0 h0 h0 h0 h0 h0 s0 h0 s1 s2 s3 h0"}};

    private final String[] state;

    private EdgesTest(String[] state) {
        this.state = state;
    }

    public static void main(String[] args) {
        for (String[] state : STATES) {
            Check.sentence(state[0] + " " + state[1]);
            EdgesTest test = new EdgesTest(state);
            test.callsWithoutNumbers();
            test.callsOfOneNumber();
            test.callsOfTwoNumbers();
            test.callsOfThreeNumbers();
        }
        Check.end();
    }

    private void same(String call, ToLongFunction<FlagWash> asked, ToLongFunction<Model> due) {
        FlagWash wash = new FlagWash();
        Model model = new Model();
        for (char letter : state[0].toCharArray()) {
            wash.write(letter);
            model.write(letter);
        }
        wash.laundry();
        model.laundry();
        for (String act : state[1].isEmpty() ? new String[0] : state[1].split(" ")) {
            act(wash, model, act.charAt(0), act.charAt(1) - '0');
        }
        Check.due(call, asked.applyAsLong(wash), due.applyAsLong(model));
        for (int what = 0; what <= 9; what++) {
            Check.due(call + ", then count(" + what + ")", wash.count(what), model.count(what));
        }
        Check.due(call + ", then seed(0)", wash.seed(0), model.seed(0));
        for (int slot = 0; slot <= 1; slot++) {
            Check.due(call + ", then again(" + slot + ")", wash.again(slot), model.again(slot));
        }
    }

    private static void act(FlagWash wash, Model model, char kind, int number) {
        switch (kind) {
            case 's' -> Check.due("send", wash.send(number), model.send(number));
            case 'p' -> Check.due("pull", wash.pull(number), model.pull(number));
            case 'h' -> Check.due("hour", wash.hour(), model.hour());
            case 'w' -> Check.due("wind", wash.wind(number), model.wind(number));
            case 'k' -> Check.due("keep", wash.keep(number), model.keep(number));
            default -> Check.due("see", wash.see(number, 15, 30), model.see(number, 15, 30));
        }
    }

    private void callsWithoutNumbers() {
        same("wipe()", FlagWash::wipe, Model::wipe);
        same("fault()", FlagWash::fault, Model::fault);
        same("laundry()", FlagWash::laundry, Model::laundry);
        same("hour()", FlagWash::hour, Model::hour);
        same("undo()", FlagWash::undo, Model::undo);
        same("quiet()", FlagWash::quiet, Model::quiet);
        same("sending(false)", w -> w.sending(false), m -> m.sending(false));
        same("sending(true)", w -> w.sending(true), m -> m.sending(true));
        same("cover()", FlagWash::cover, Model::cover);
        same("unsee()", FlagWash::unsee, Model::unsee);
    }

    private void callsOfOneNumber() {
        for (int a : MANY) {
            same("write(" + a + ")", w -> w.write(a), m -> m.write(a));
            same("send(" + a + ")", w -> w.send(a), m -> m.send(a));
            same("pull(" + a + ")", w -> w.pull(a), m -> m.pull(a));
            same("wind(" + a + ")", w -> w.wind(a), m -> m.wind(a));
            same("share(" + a + ", true)", w -> w.share(a, true), m -> m.share(a, true));
            same("share(" + a + ", false)", w -> w.share(a, false), m -> m.share(a, false));
            same("seed(" + a + ")", w -> w.seed(a), m -> m.seed(a));
            same("weeks(" + a + ")", w -> w.weeks(a), m -> m.weeks(a));
            same("keep(" + a + ")", w -> w.keep(a), m -> m.keep(a));
            same("again(" + a + ")", w -> w.again(a), m -> m.again(a));
            same("count(" + a + ")", w -> w.count(a), m -> m.count(a));
        }
    }

    private void callsOfTwoNumbers() {
        for (int a : FEW) {
            for (int b : MANY) {
                String two = "(" + a + ", " + b + ")";
                same("flag" + two, w -> w.flag(a, b), m -> m.flag(a, b));
                same("peace" + two, w -> w.peace(a, b), m -> m.peace(a, b));
                same("ran" + two, w -> w.ran(a, b), m -> m.ran(a, b));
                same("had" + two, w -> w.had(a, b), m -> m.had(a, b));
            }
            for (int row : ROWS) {
                same("judge(" + a + ", " + row + ")", w -> w.judge(a, row), m -> m.judge(a, row));
            }
        }
    }

    private void callsOfThreeNumbers() {
        for (int a : FEW) {
            for (int b : FEW) {
                for (int c : FEW) {
                    String three = "(" + a + ", " + b + ", " + c + ")";
                    same("rests" + three, w -> w.rests(a, b, c), m -> m.rests(a, b, c));
                }
            }
            for (int b : new int[] {Integer.MIN_VALUE, -1, 0, 1, 8, 15, 16, Integer.MAX_VALUE}) {
                for (int c : new int[] {Integer.MIN_VALUE, -2, -1, 0, 1, 2, 16, 30, 31, 32, 33, Integer.MAX_VALUE}) {
                    String three = "(" + a + ", " + b + ", " + c + ")";
                    same("see" + three, w -> w.see(a, b, c), m -> m.see(a, b, c));
                }
            }
            for (int b : new int[] {Integer.MIN_VALUE, -1, 0, 1, 2, 5, 6, 7, Integer.MAX_VALUE}) {
                for (int c : new int[] {Integer.MIN_VALUE, -1, 0, 1, 5, 9, 10, 11, Integer.MAX_VALUE}) {
                    String three = "(" + a + ", " + b + ", " + c + ", ";
                    same("dry" + three + "true)", w -> w.dry(a, b, c, true), m -> m.dry(a, b, c, true));
                    same("dry" + three + "false)", w -> w.dry(a, b, c, false), m -> m.dry(a, b, c, false));
                }
            }
        }
    }
}
