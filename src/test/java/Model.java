import java.math.BigInteger;
import java.util.ArrayDeque;
import java.util.ArrayList;
import java.util.Arrays;
import java.util.Deque;
import java.util.List;
import java.util.TreeSet;

/** The document told a second time, by trying everything out, to be held against the class. */
final class Model {
    static final int UNKNOWN = -1, BAD = -2, LATE = -3, FULL = -4, NONE = -9;

    /** What may come behind a text that is cut off within a part. */
    private static final String[] ENDS = {"", "D", "0", "00", "000", "0000", "00000", "1", "2", "3", "4"};

    record Land(int grass, int worth, int kind) { }

    record State(List<Integer> high, List<Integer> clay, List<Integer> keeper, List<List<Integer>> owed,
            TreeSet<Integer> spades, TreeSet<Integer> dams, int tide) {
        State copy() {
            List<List<Integer>> rows = new ArrayList<>();
            owed.forEach(row -> rows.add(new ArrayList<>(row)));
            return new State(new ArrayList<>(high), new ArrayList<>(clay), new ArrayList<>(keeper), rows,
                    new TreeSet<>(spades), new TreeSet<>(dams), tide);
        }

        State later() {
            State copy = copy();
            return new State(copy.high, copy.clay, copy.keeper, copy.owed, copy.spades, copy.dams, tide + 1);
        }
    }

    private String text = "";
    private List<Land> lands = new ArrayList<>();
    private State state = empty();
    private final Deque<State> before = new ArrayDeque<>();
    private State[] kept = new State[2];
    private long theSeed;

    private static State empty() {
        return new State(new ArrayList<>(), new ArrayList<>(), new ArrayList<>(), new ArrayList<>(),
                new TreeSet<>(), new TreeSet<>(), 0);
    }

    int write(int letter) {
        if (letter < 0 || letter > 255) {
            return BAD;
        }
        if (text.length() == 48) {
            return FULL;
        }
        text += (char) letter;
        return text.length();
    }

    int wipe() {
        int length = text.length();
        text = "";
        return length;
    }

    private static boolean isDyke(String text) {
        if (!text.matches("D(F[0-9][0-3][0-9][0-9][0-3]|I[0-9])*")) {
            return false;
        }
        int farms = 0;
        TreeSet<Integer> dams = new TreeSet<>();
        for (int i = 1; i < text.length(); i += text.charAt(i) == 'F' ? 6 : 2) {
            if (text.charAt(i) == 'F') {
                farms++;
            } else {
                int farm = text.charAt(i + 1) - '0';
                if (farm > farms - 2 || !dams.add(farm)) {
                    return false;
                }
            }
        }
        return farms <= 6;
    }

    private static boolean canBeDyke(String text) {
        return Arrays.stream(ENDS).anyMatch(end -> isDyke(text + end));
    }

    int fault() {
        if (isDyke(text)) {
            return NONE;
        }
        for (int i = 0; i < text.length(); i++) {
            if (!canBeDyke(text.substring(0, i + 1))) {
                return i;
            }
        }
        return text.length();
    }

    int dyke() {
        if (!isDyke(text)) {
            return LATE;
        }
        lands = new ArrayList<>();
        state = empty();
        before.clear();
        kept = new State[2];
        for (int i = 1; i < text.length(); i += text.charAt(i) == 'F' ? 6 : 2) {
            if (text.charAt(i) == 'F') {
                String figures = text.substring(i + 1, i + 6);
                state.keeper.add(lands.size());
                lands.add(new Land(figures.charAt(1) - '0', figures.charAt(3) - '0', figures.charAt(4) - '0'));
                state.high.add(figures.charAt(0) - '0');
                state.clay.add(figures.charAt(2) - '0');
            } else {
                state.dams.add(text.charAt(i + 1) - '0');
            }
        }
        lands.forEach(land -> state.owed.add(new ArrayList<>(lands.stream().map(l -> 0).toList())));
        return lands.size();
    }

    private static int bits(Iterable<Integer> set) {
        int bits = 0;
        for (int i : set) {
            bits += 1 << i;
        }
        return bits;
    }

    int about(int what) {
        return switch (what) {
            case 0 -> lands.size();
            case 1 -> bits(state.dams);
            case 2 -> bits(state.spades);
            case 3 -> state.tide;
            case 4 -> state.clay.stream().mapToInt(c -> c).sum();
            case 5 -> before.size();
            case 6 -> text.length();
            default -> BAD;
        };
    }

    private boolean no(int farm) {
        return farm < 0 || farm >= lands.size();
    }

    private static boolean noStorm(int x) {
        return x < 0 || x > 20;
    }

    private int strength(int stretch, int high) {
        Land land = lands.get(stretch);
        int[] extra = {land.grass, 0, 2 * land.grass, land.grass + 2};
        return high + extra[land.kind];
    }

    int farm(int farm, int what) {
        if (no(farm)) {
            return UNKNOWN;
        }
        return switch (what) {
            case 0 -> state.high.get(farm);
            case 1 -> lands.get(farm).grass;
            case 2 -> state.clay.get(farm);
            case 3 -> lands.get(farm).worth;
            case 4 -> lands.get(farm).kind;
            case 5 -> state.keeper.get(farm);
            case 6 -> strength(farm, state.high.get(farm));
            default -> BAD;
        };
    }

    int owes(int farm, int other) {
        return no(farm) || no(other) ? UNKNOWN : state.owed.get(farm).get(other);
    }

    /** Stretches that break at such heights. */
    private TreeSet<Integer> broken(List<Integer> high, int x) {
        TreeSet<Integer> broken = new TreeSet<>();
        for (int i = 0; i < lands.size(); i++) {
            if (x > strength(i, high.get(i))) {
                broken.add(i);
            }
        }
        return broken;
    }

    private List<Integer> behind(List<Integer> high, int x) {
        List<Integer> behind = new ArrayList<>();
        for (int i = 0; i < lands.size(); i++) {
            int strength = strength(i, high.get(i));
            behind.add(x > strength ? 0 : x == strength ? Math.max(0, high.get(i) - 1) : high.get(i));
        }
        return behind;
    }

    private TreeSet<Integer> drowned(Iterable<Integer> broken) {
        TreeSet<Integer> drowned = new TreeSet<>();
        for (int stretch : broken) {
            for (int i = stretch; i < lands.size(); i++) {
                drowned.add(i);
                if (state.dams.contains(i)) {
                    break;
                }
            }
            for (int i = stretch; i >= 0; i--) {
                drowned.add(i);
                if (state.dams.contains(i - 1)) {
                    break;
                }
            }
        }
        return drowned;
    }

    private int lost(Iterable<Integer> broken) {
        return drowned(broken).stream().mapToInt(i -> lands.get(i).worth).sum();
    }

    private void act() {
        before.addLast(state.copy());
        if (before.size() > 14) {
            before.removeFirst();
        }
    }

    int storm(int x) {
        if (noStorm(x)) {
            return BAD;
        }
        act();
        TreeSet<Integer> broken = broken(state.high, x);
        int lost = lost(broken);
        List<Integer> behind = behind(state.high, x);
        state = state.later();
        state.high.clear();
        state.high.addAll(behind);
        state.spades.addAll(broken);
        return lost;
    }

    private static int more(List<Integer> row, int place, int by) {
        row.set(place, row.get(place) + by);
        return row.get(place);
    }

    int carry(int farm, int stretch) {
        if (no(farm) || no(stretch)) {
            return UNKNOWN;
        }
        if (state.clay.get(farm) == 0) {
            return LATE;
        }
        if (state.high.get(stretch) == 15) {
            return FULL;
        }
        act();
        more(state.clay, farm, -1);
        return more(state.high, stretch, 1);
    }

    int lend(int farm, int other) {
        if (no(farm) || no(other)) {
            return UNKNOWN;
        }
        if (farm == other) {
            return BAD;
        }
        if (state.clay.get(farm) == 0) {
            return LATE;
        }
        act();
        more(state.clay, farm, -1);
        more(state.clay, other, 1);
        return more(state.owed.get(other), farm, 1);
    }

    int stick(int stretch) {
        if (no(stretch)) {
            return UNKNOWN;
        }
        if (state.spades.contains(stretch)) {
            return LATE;
        }
        act();
        state.spades.add(stretch);
        return state.keeper.get(stretch);
    }

    int pull(int farm, int stretch) {
        if (no(farm) || no(stretch)) {
            return UNKNOWN;
        }
        if (!state.spades.contains(stretch)) {
            return LATE;
        }
        act();
        state.spades.remove(stretch);
        return state.keeper.set(stretch, farm);
    }

    int dam(int farm) {
        if (no(farm) || no(farm + 1)) {
            return UNKNOWN;
        }
        act();
        if (state.dams.remove(farm)) {
            return 0;
        }
        state.dams.add(farm);
        return 1;
    }

    int undo() {
        if (before.isEmpty()) {
            return LATE;
        }
        state = before.removeLast();
        return before.size();
    }

    int breaks(int x) {
        return noStorm(x) ? BAD : bits(broken(state.high, x));
    }

    int drowns(int x) {
        return noStorm(x) ? BAD : bits(drowned(broken(state.high, x)));
    }

    int loss(int x) {
        return noStorm(x) ? BAD : lost(broken(state.high, x));
    }

    int needs(int x) {
        if (noStorm(x)) {
            return BAD;
        }
        List<Integer> high = new ArrayList<>(state.high);
        int loads = 0;
        while (!broken(high, x).isEmpty()) {
            more(high, broken(high, x).first(), 1);
            loads++;
        }
        return loads;
    }

    /** Loss, clay and stretches that hold, of the best placing. */
    private int[] placed(int n, int x) {
        List<Integer> weak = new ArrayList<>(broken(state.high, x));
        int[] best = null;
        for (int choice = 0; choice < 1 << weak.size(); choice++) {
            int loads = 0;
            TreeSet<Integer> left = new TreeSet<>(weak);
            for (int i = 0; i < weak.size(); i++) {
                if ((choice >> i & 1) == 1) {
                    left.remove(weak.get(i));
                    loads += x - strength(weak.get(i), state.high.get(weak.get(i)));
                }
            }
            int[] made = {lost(left), loads, (1 << lands.size()) - 1 - bits(left)};
            if (loads <= n && (best == null || Arrays.compare(made, best) < 0)) {
                best = made;
            }
        }
        return best;
    }

    int placing(int n, int x, int what) {
        if (n < 0 || n > 60 || noStorm(x) || what < 0 || what > 1) {
            return BAD;
        }
        return placed(n, x)[2 * what];
    }

    int all() {
        int best = NONE;
        for (int i = lands.size() - 1; i >= 0; i--) {
            if (best == NONE || lost(List.of(i)) >= lost(List.of(best))) {
                best = i;
            }
        }
        return best;
    }

    int told(int stretch, int n, long storms, int what) {
        if (no(stretch)) {
            return UNKNOWN;
        }
        if (n < 1 || n > 5 || storms < 0 || what < 0 || what > 2) {
            return BAD;
        }
        String figures = "0".repeat(2 * n) + storms;
        int cut = figures.length() - 2 * n;
        if (!figures.substring(0, cut).matches("0*")) {
            return BAD;
        }
        List<Integer> row = new ArrayList<>();
        for (int i = 0; i < n; i++) {
            row.add(Integer.parseInt(figures.substring(cut + 2 * i, cut + 2 * i + 2)));
        }
        if (row.stream().anyMatch(Model::noStorm)) {
            return BAD;
        }
        List<Integer> high = state.high;
        int first = NONE;
        int goes = NONE;
        for (int i = 0; i < n; i++) {
            TreeSet<Integer> broken = broken(high, row.get(i));
            first = first == NONE && !broken.isEmpty() ? i : first;
            goes = goes == NONE && broken.contains(stretch) ? i : goes;
            high = behind(high, row.get(i));
        }
        return new int[] {first, goes, high.get(stretch)}[what];
    }

    private List<Integer> members(int bits) {
        List<Integer> members = new ArrayList<>();
        for (int i = 0; i < lands.size(); i++) {
            if ((bits >> i & 1) == 1) {
                members.add(i);
            }
        }
        return members;
    }

    int wet(int told, int what) {
        if (told < 0 || told >= 1 << lands.size() || what < 0 || what > 2) {
            return BAD;
        }
        List<Integer> sets = new ArrayList<>();
        for (int set = 0; set < 1 << lands.size(); set++) {
            if (bits(drowned(members(set))) == told) {
                sets.add(set);
            }
        }
        if (what == 0) {
            return sets.size();
        }
        if (sets.isEmpty()) {
            return NONE;
        }
        int answer = 0;
        for (int i = 0; i < lands.size(); i++) {
            int bit = 1 << i;
            if (sets.stream().allMatch(set -> (set & bit) == (what == 1 ? bit : 0))) {
                answer |= bit;
            }
        }
        return answer;
    }

    private int netOf(int farm) {
        int net = 0;
        for (int i = 0; i < lands.size(); i++) {
            net += state.owed.get(i).get(farm) - state.owed.get(farm).get(i);
        }
        return net;
    }

    int net(int farm) {
        return no(farm) ? UNKNOWN : 100 + netOf(farm);
    }

    /** The most sets that come to nothing, by putting each farm in one of the sets there are or in a new one. */
    private static int cuts(List<Integer> nets, int place, List<Integer> sums) {
        if (place == nets.size()) {
            return sums.stream().allMatch(sum -> sum == 0) ? sums.size() : -1;
        }
        int best = -1;
        for (int i = 0; i < sums.size(); i++) {
            List<Integer> joined = new ArrayList<>(sums);
            more(joined, i, nets.get(place));
            best = Math.max(best, cuts(nets, place + 1, joined));
        }
        List<Integer> opened = new ArrayList<>(sums);
        opened.add(nets.get(place));
        return Math.max(best, cuts(nets, place + 1, opened));
    }

    int payings() {
        List<Integer> nets = new ArrayList<>();
        for (int i = 0; i < lands.size(); i++) {
            if (netOf(i) != 0) {
                nets.add(netOf(i));
            }
        }
        return nets.size() - cuts(nets, 0, new ArrayList<>());
    }

    /** What a farm saves in all orders together, and how many there are. */
    private long[] saved(int farm, int x, List<Integer> come, int[] lossOf) {
        if (come.contains(farm)) {
            long orders = 1;
            for (int i = come.size() + 1; i <= lands.size(); i++) {
                orders *= i - come.size();
            }
            int with = bits(come);
            return new long[] {orders * (lossOf[with - (1 << farm)] - lossOf[with]), orders};
        }
        long[] sum = {0, 0};
        for (int next = 0; next < lands.size(); next++) {
            if (!come.contains(next)) {
                List<Integer> more = new ArrayList<>(come);
                more.add(next);
                long[] part = saved(farm, x, more, lossOf);
                sum[0] += part[0];
                sum[1] += part[1];
            }
        }
        return sum;
    }

    private static int fraction(long above, long below, boolean upper) {
        long common = BigInteger.valueOf(above).gcd(BigInteger.valueOf(below)).longValue();
        return (int) ((upper ? above : below) / common);
    }

    int share(int farm, int x, boolean upper) {
        if (no(farm)) {
            return UNKNOWN;
        }
        if (noStorm(x)) {
            return BAD;
        }
        int[] lossOf = new int[1 << lands.size()];
        for (int set = 0; set < lossOf.length; set++) {
            lossOf[set] = placed(members(set).stream().mapToInt(i -> state.clay.get(i)).sum(), x)[0];
        }
        long[] sum = saved(farm, x, List.of(), lossOf);
        return fraction(sum[0], sum[1], upper);
    }

    int rests(int farm, int other, int stretch, int x, int what) {
        if (no(farm) || no(other) || no(stretch)) {
            return UNKNOWN;
        }
        if (farm == other || noStorm(x) || what < 0 || what > 1) {
            return BAD;
        }
        List<Integer> found = new ArrayList<>();
        for (int pair = 0; pair < 16; pair++) {
            int one = pair / 4;
            int two = pair % 4;
            boolean rest = true;
            for (int instead = 0; instead < 4; instead++) {
                rest &= left(farm, instead, two, stretch, x) <= left(farm, one, two, stretch, x);
                rest &= left(other, instead, one, stretch, x) <= left(other, two, one, stretch, x);
            }
            if (rest) {
                found.add(10 * one + two);
            }
        }
        return what == 0 ? found.size() : found.isEmpty() ? NONE : found.get(0);
    }

    private int left(int farm, int gives, int others, int stretch, int x) {
        List<Integer> high = new ArrayList<>(state.high);
        more(high, stretch, gives + others);
        return (drowned(broken(high, x)).contains(farm) ? 0 : lands.get(farm).worth) - gives;
    }

    /** Thousandths that a stretch breaks in none of so many storms to come. */
    private int holding(int stretch, List<Integer> high, int[] storms, int t, int left) {
        if (left == 0) {
            return 1;
        }
        int sum = 0;
        for (int i = 0; i < 2; i++) {
            if (!broken(high, storms[i]).contains(stretch)) {
                sum += (i == 0 ? t : 10 - t) * holding(stretch, behind(high, storms[i]), storms, t, left - 1);
            }
        }
        return sum;
    }

    int threes(int stretch, int a, int b, int t, boolean upper) {
        if (no(stretch)) {
            return UNKNOWN;
        }
        if (noStorm(a) || noStorm(b) || t < 0 || t > 10) {
            return BAD;
        }
        return fraction(holding(stretch, state.high, new int[] {a, b}, t, 3), 1000, upper);
    }

    long seed(long v) {
        long was = theSeed;
        theSeed = v;
        return was;
    }

    int winters(int m) {
        if (m < 1 || m > 20) {
            return BAD;
        }
        List<Integer> high = state.high;
        int sum = 0;
        for (int i = 0; i < m; i++) {
            BigInteger next = BigInteger.valueOf(theSeed).multiply(new BigInteger("6364136223846793005"))
                    .add(new BigInteger("1442695040888963407")).mod(BigInteger.ONE.shiftLeft(64));
            theSeed = next.longValue();
            int x = next.shiftRight(33).intValue() & 15;
            sum += lost(broken(high, x));
            high = behind(high, x);
        }
        return sum;
    }

    int keep(int slot) {
        if (slot != 0 && slot != 1) {
            return UNKNOWN;
        }
        kept[slot] = state.copy();
        return state.tide;
    }

    int again(int slot) {
        if (slot != 0 && slot != 1) {
            return UNKNOWN;
        }
        if (kept[slot] == null) {
            return LATE;
        }
        state = kept[slot].copy();
        before.clear();
        return state.tide;
    }
}
