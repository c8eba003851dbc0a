import java.math.BigInteger;
import java.util.ArrayDeque;
import java.util.ArrayList;
import java.util.Comparator;
import java.util.Deque;
import java.util.List;
import java.util.regex.Matcher;
import java.util.regex.Pattern;

/**
 * The document once more, written in another way than the program: by definitions and by trying all,
 * with the whole Java library, so that a slip in one of the two shows.
 */
final class Model {
    static final int UNKNOWN = -1, OUTSIDE = -2, STATE = -3, FULL = -4, NONE = -9;

    private static final Pattern WHOLE =
            Pattern.compile("U[1-3][1-4][0-2](F[a-p][0-3][1-4]|H[0-4][0-4])*", Pattern.DOTALL);
    private static final Pattern PART = Pattern.compile("F([a-p])([0-3])([1-4])|H([0-4])([0-4])");
    private static final String[] ENDS = {"U110", "110", "10", "0", "", "a01", "01", "1"};

    /** A flag and where it is; copied whole, never shared. */
    private static final class Flag {
        int colours;
        int cloth;
        int hours;
        String place = "home";
        int left;

        Flag copy() {
            Flag copy = new Flag();
            copy.colours = colours;
            copy.cloth = cloth;
            copy.hours = hours;
            copy.place = place;
            copy.left = left;
            return copy;
        }
    }

    /** A laundry at one moment. */
    private static final class World {
        int tubs = 1;
        int pegs = 1;
        int wind;
        int hour;
        List<Flag> flags = new ArrayList<>();
        List<int[]> foes = new ArrayList<>();

        World copy() {
            World copy = new World();
            copy.tubs = tubs;
            copy.pegs = pegs;
            copy.wind = wind;
            copy.hour = hour;
            for (Flag flag : flags) {
                copy.flags.add(flag.copy());
            }
            copy.foes = foes;
            return copy;
        }

        int at(String place) {
            return (int) flags.stream().filter(f -> f.place.equals(place)).count();
        }

        boolean isHome(int flag) {
            return flags.get(flag).place.equals("home");
        }

        boolean foes(int a, int b) {
            return foes.stream().anyMatch(p -> p[0] == a && p[1] == b || p[0] == b && p[1] == a);
        }

        long fights() {
            return foes.stream().filter(p -> isHome(p[0]) && isHome(p[1])).count();
        }

        boolean trySend(int flag) {
            if (flag >= flags.size() || !isHome(flag) || at("tub") == tubs) {
                return false;
            }
            flags.get(flag).place = "tub";
            flags.get(flag).left = flags.get(flag).hours;
            return true;
        }

        boolean tryPull(int flag) {
            if (flag >= flags.size() || isHome(flag)) {
                return false;
            }
            flags.get(flag).place = "home";
            flags.get(flag).left = 0;
            return true;
        }

        int passHour() {
            int home = 0;
            for (int i = 0; i < flags.size(); i++) {
                Flag flag = flags.get(i);
                if (flag.place.equals("line")) {
                    flag.left = Math.max(0, flag.left - 1 - wind);
                    if (flag.left == 0) {
                        flag.place = "home";
                        home += 1 << i;
                    }
                }
            }
            List<Flag> inTubs = flags.stream().filter(f -> f.place.equals("tub")).toList();
            int dye = inTubs.stream().filter(f -> f.cloth == 3).mapToInt(f -> f.colours).reduce(0, (a, b) -> a | b);
            for (Flag flag : inTubs) {
                flag.colours |= dye;
                flag.left = Math.max(0, flag.left - 1);
                if (flag.left == 0 && at("line") < pegs) {
                    flag.place = "line";
                    flag.left = List.of(4, 6, 2, 4).get(flag.cloth);
                }
            }
            hour++;
            return home;
        }
    }

    private record Seen(int flag, int colours, int with) {
    }

    private final StringBuilder text = new StringBuilder();
    private World world = new World();
    private final Deque<World> row = new ArrayDeque<>();
    private final List<Seen> seen = new ArrayList<>();
    private final World[] slots = new World[2];
    private long seed = 0;

    private static World read(String text) {
        if (!WHOLE.matcher(text).matches()) {
            return null;
        }
        World made = new World();
        made.tubs = text.charAt(1) - '0';
        made.pegs = text.charAt(2) - '0';
        made.wind = text.charAt(3) - '0';
        Matcher part = PART.matcher(text.substring(4));
        while (part.find()) {
            if (part.group(1) != null) {
                Flag flag = new Flag();
                flag.colours = part.group(1).charAt(0) - 'a';
                flag.cloth = Integer.parseInt(part.group(2));
                flag.hours = Integer.parseInt(part.group(3));
                made.flags.add(flag);
            } else {
                int a = Integer.parseInt(part.group(4));
                int b = Integer.parseInt(part.group(5));
                if (a == b || a >= made.flags.size() || b >= made.flags.size() || made.foes(a, b)) {
                    return null;
                }
                made.foes.add(new int[] {a, b});
            }
        }
        return made.flags.size() > 5 ? null : made;
    }

    /** Can anything come behind this so that it is a laundry? Each way to end the part begun is tried. */
    private static boolean canBecome(String begun) {
        for (String end : ENDS) {
            if (read(begun + end) != null) {
                return true;
            }
        }
        for (int i = 0; i < 25; i++) {
            if (read(begun + i / 5) != null || read(begun + i / 5 + i % 5) != null) {
                return true;
            }
        }
        return false;
    }

    int write(int letter) {
        if (letter < 0 || letter > 255) {
            return OUTSIDE;
        }
        if (text.length() == 48) {
            return FULL;
        }
        return text.append((char) letter).length();
    }

    int wipe() {
        int was = text.length();
        text.setLength(0);
        return was;
    }

    int fault() {
        for (int i = 1; i <= text.length(); i++) {
            if (!canBecome(text.substring(0, i))) {
                return i - 1;
            }
        }
        return read(text.toString()) == null ? text.length() : NONE;
    }

    int laundry() {
        World made = read(text.toString());
        if (made == null) {
            return STATE;
        }
        world = made;
        row.clear();
        slots[0] = null;
        slots[1] = null;
        return made.flags.size();
    }

    private boolean no(int flag) {
        return flag < 0 || flag >= world.flags.size();
    }

    int flag(int flag, int what) {
        if (no(flag)) {
            return UNKNOWN;
        }
        Flag f = world.flags.get(flag);
        return switch (what) {
            case 0 -> f.colours;
            case 1 -> f.cloth;
            case 2 -> f.hours;
            case 3 -> List.of("home", "tub", "line").indexOf(f.place);
            case 4 -> f.left;
            case 5 -> {
                int bits = 0;
                for (int i = 0; i < world.flags.size(); i++) {
                    bits += world.foes(flag, i) ? 1 << i : 0;
                }
                yield bits;
            }
            default -> OUTSIDE;
        };
    }

    private void act(World before) {
        row.addLast(before);
        if (row.size() > 14) {
            row.removeFirst();
        }
    }

    int send(int flag) {
        if (no(flag)) {
            return UNKNOWN;
        }
        World before = world.copy();
        if (!world.trySend(flag)) {
            return STATE;
        }
        act(before);
        return world.tubs - world.at("tub");
    }

    int pull(int flag) {
        if (no(flag)) {
            return UNKNOWN;
        }
        World before = world.copy();
        int was = flag(flag, 3);
        if (!world.tryPull(flag)) {
            return STATE;
        }
        act(before);
        return was;
    }

    int hour() {
        act(world.copy());
        return world.passHour();
    }

    int wind(int wind) {
        if (wind < 0 || wind > 2) {
            return OUTSIDE;
        }
        if (world.wind == wind) {
            return STATE;
        }
        act(world.copy());
        int was = world.wind;
        world.wind = wind;
        return was;
    }

    int undo() {
        if (row.isEmpty()) {
            return STATE;
        }
        world = row.removeLast();
        return row.size();
    }

    int peace(int flag, int other) {
        if (no(flag) || no(other)) {
            return UNKNOWN;
        }
        if (flag == other) {
            return OUTSIDE;
        }
        if (!world.foes(flag, other)) {
            return NONE;
        }
        World ahead = world.copy();
        for (int i = 0; i <= 40; i++) {
            if (ahead.isHome(flag) && ahead.isHome(other)) {
                return i;
            }
            ahead.passHour();
        }
        return NONE;
    }

    private static int quietOf(World from) {
        World ahead = from.copy();
        for (int i = 0; i <= 40; i++) {
            if (ahead.fights() > 0) {
                return i;
            }
            ahead.passHour();
        }
        return NONE;
    }

    int quiet() {
        return quietOf(world);
    }

    /** All sets of the flags, the fewest first, of like ones the least first. */
    private List<Integer> sets() {
        List<Integer> sets = new ArrayList<>();
        for (int i = 0; i < 1 << world.flags.size(); i++) {
            sets.add(i);
        }
        sets.sort(Comparator.comparingInt(Integer::bitCount));
        return sets;
    }

    private World withSent(int set) {
        World sent = world.copy();
        for (int i = 0; i < 5; i++) {
            if ((set >> i & 1) == 1 && !sent.trySend(i)) {
                return null;
            }
        }
        return sent;
    }

    int sending(boolean quiet) {
        int best = -1;
        int longest = -1;
        for (int set : sets()) {
            World sent = withSent(set);
            if (sent != null) {
                int quietThen = quietOf(sent);
                int hours = quietThen == NONE ? Integer.MAX_VALUE : quietThen;
                if (hours > longest) {
                    longest = hours;
                    best = set;
                }
            }
        }
        return !quiet ? best : longest == Integer.MAX_VALUE ? NONE : longest;
    }

    int cover() {
        for (int set : sets()) {
            boolean good = true;
            for (int i = 0; i < world.flags.size(); i++) {
                good &= (set >> i & 1) == 0 || world.isHome(i);
            }
            for (int[] pair : world.foes) {
                boolean fights = world.isHome(pair[0]) && world.isHome(pair[1]);
                good &= !fights || (set >> pair[0] & 1) == 1 || (set >> pair[1] & 1) == 1;
            }
            if (good) {
                return set;
            }
        }
        throw new IllegalStateException("all of them always cover");
    }

    int ran(int flag, int colours) {
        if (no(flag)) {
            return UNKNOWN;
        }
        if (colours < 0 || colours > 15) {
            return OUTSIDE;
        }
        for (int set : sets()) {
            int together = world.flags.get(flag).colours;
            for (int i = 0; i < world.flags.size(); i++) {
                together |= (set >> i & 1) == 1 ? world.flags.get(i).colours : 0;
            }
            if ((set >> flag & 1) == 0 && together == colours) {
                return set;
            }
        }
        return NONE;
    }

    int judge(int n, int row) {
        if (n < 1 || n > 6 || row < 0 || Integer.toString(row).length() > n) {
            return OUTSIDE;
        }
        String figures = "0".repeat(n - Integer.toString(row).length()) + row;
        World ahead = world.copy();
        for (int i = 0; i < n; i++) {
            int figure = figures.charAt(i) - '0';
            boolean can = true;
            if (figure == 0) {
                ahead.passHour();
            } else {
                can = figure < 6 ? ahead.trySend(figure - 1) : ahead.tryPull(figure - 6);
            }
            if (!can) {
                return i;
            }
        }
        return NONE;
    }

    int see(int flag, int colours, int with) {
        if (no(flag)) {
            return UNKNOWN;
        }
        if (colours < 0 || colours > 15 || with < 0 || with > 31 || (with >> flag & 1) == 1) {
            return OUTSIDE;
        }
        if (seen.size() == 6) {
            return FULL;
        }
        seen.add(new Seen(flag, colours, with));
        return seen.size();
    }

    int unsee() {
        int was = seen.size();
        seen.clear();
        return was;
    }

    private boolean isSo(Seen one, int own) {
        int colours = own;
        for (int i = 0; i < 5; i++) {
            if ((one.with >> i & 1) == 1) {
                if (no(i)) {
                    return true;
                }
                colours |= world.flags.get(i).colours;
            }
        }
        return colours == one.colours;
    }

    int had(int flag, int what) {
        if (no(flag)) {
            return UNKNOWN;
        }
        if (what < 0 || what > 2) {
            return OUTSIDE;
        }
        List<Integer> may = new ArrayList<>();
        for (int own = 0; own < 16; own++) {
            final int colours = own;
            if (seen.stream().filter(s -> s.flag == flag).allMatch(s -> isSo(s, colours))) {
                may.add(own);
            }
        }
        if (what == 0) {
            return may.size();
        }
        if (may.isEmpty()) {
            return NONE;
        }
        int inAll = may.stream().reduce(15, (a, b) -> a & b);
        int inAny = may.stream().reduce(0, (a, b) -> a | b);
        return what == 1 ? inAll : 15 - inAny;
    }

    private static int told(BigInteger above, BigInteger below, boolean upper) {
        BigInteger common = above.gcd(below);
        return (upper ? above : below).divide(common).intValueExact();
    }

    int share(int flag, boolean upper) {
        if (no(flag)) {
            return UNKNOWN;
        }
        int[] sumAndOrders = new int[2];
        goThroughOrders(new ArrayList<>(), flag, sumAndOrders);
        return told(BigInteger.valueOf(sumAndOrders[0]), BigInteger.valueOf(sumAndOrders[1]), upper);
    }

    private void goThroughOrders(List<Integer> came, int flag, int[] sumAndOrders) {
        if (came.size() == world.flags.size()) {
            List<Integer> ahead = came.subList(0, came.indexOf(flag));
            List<Integer> then = came.subList(0, came.indexOf(flag) + 1);
            sumAndOrders[0] += inPeace(then) - inPeace(ahead);
            sumAndOrders[1]++;
            return;
        }
        for (int i = 0; i < world.flags.size(); i++) {
            if (!came.contains(i)) {
                List<Integer> next = new ArrayList<>(came);
                next.add(i);
                goThroughOrders(next, flag, sumAndOrders);
            }
        }
    }

    private int inPeace(List<Integer> washed) {
        int countries = 0;
        for (int i = 0; i < world.flags.size(); i++) {
            boolean mayFight = false;
            for (int j = 0; j < world.flags.size(); j++) {
                mayFight |= world.foes(i, j) && !washed.contains(i) && !washed.contains(j);
            }
            countries += mayFight ? 0 : 1;
        }
        return countries;
    }

    int rests(int flag, int other, int what) {
        if (no(flag) || no(other)) {
            return UNKNOWN;
        }
        if (flag == other || what < 0 || what > 1) {
            return OUTSIDE;
        }
        int war = world.foes(flag, other) ? -5 : 0;
        int a = -world.flags.get(flag).hours;
        int b = -world.flags.get(other).hours;
        int[][] one = {{a, a}, {2, war}};
        int[][] two = {{b, 2}, {b, war}};
        List<Integer> rests = new ArrayList<>();
        for (int i = 0; i < 2; i++) {
            for (int j = 0; j < 2; j++) {
                if (one[1 - i][j] <= one[i][j] && two[i][1 - j] <= two[i][j]) {
                    rests.add(10 * i + j);
                }
            }
        }
        return what == 0 ? rests.size() : rests.isEmpty() ? NONE : rests.get(0);
    }

    int dry(int flag, int n, int x, boolean upper) {
        if (no(flag)) {
            return UNKNOWN;
        }
        if (n < 1 || n > 6 || x < 0 || x > 10) {
            return OUTSIDE;
        }
        if (!world.flags.get(flag).place.equals("line")) {
            return STATE;
        }
        BigInteger ways = BigInteger.ZERO;
        for (int winds = 0; winds < 1 << n; winds++) {
            int wet = world.flags.get(flag).left;
            long weight = 1;
            for (int i = 0; i < n; i++) {
                boolean windy = (winds >> i & 1) == 1;
                weight *= windy ? x : 10 - x;
                wet -= windy ? 3 : 1;
            }
            ways = wet <= 0 ? ways.add(BigInteger.valueOf(weight)) : ways;
        }
        return told(ways, BigInteger.TEN.pow(n), upper);
    }

    long seed(long v) {
        long was = seed;
        seed = v;
        return was;
    }

    int weeks(int m) {
        if (m < 1 || m > 30) {
            return OUTSIDE;
        }
        World ahead = world.copy();
        int behind = 0;
        for (int i = 0; i < m; i++) {
            BigInteger x = BigInteger.valueOf(seed).multiply(new BigInteger("6364136223846793005"))
                    .add(new BigInteger("1442695040888963407")).mod(BigInteger.TWO.pow(64));
            seed = x.longValue();
            int left = x.shiftRight(33).mod(BigInteger.TEN).intValueExact();
            if (left <= 4) {
                ahead.trySend(left);
            } else {
                ahead.wind = left % 3;
                ahead.passHour();
            }
            behind += ahead.fights() > 0 ? 1 : 0;
        }
        return behind;
    }

    int keep(int slot) {
        if (slot != 0 && slot != 1) {
            return UNKNOWN;
        }
        slots[slot] = world.copy();
        return world.hour;
    }

    int again(int slot) {
        if (slot != 0 && slot != 1) {
            return UNKNOWN;
        }
        if (slots[slot] == null) {
            return STATE;
        }
        world = slots[slot].copy();
        row.clear();
        return world.hour;
    }

    int count(int what) {
        int home = 0;
        for (int i = 0; i < world.flags.size(); i++) {
            home += world.isHome(i) ? 1 << i : 0;
        }
        int[] counts = {text.length(), world.flags.size(), world.tubs - world.at("tub"),
            world.pegs - world.at("line"), world.wind, home, (int) world.fights(), world.hour,
            row.size(), seen.size()};
        return what < 0 || what >= counts.length ? OUTSIDE : counts[what];
    }
}
