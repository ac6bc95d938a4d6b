import java.util.Arrays;

/** A dyke that farms keep in turns for the sea, told as a text; the promises stand in DOC.md. */
public final class DykeFarms {
    public static final int UNKNOWN = -1, BAD = -2, LATE = -3, FULL = -4, NONE = -9;

    private static final int MOST_LETTERS = 48;
    private static final int MOST_FARMS = 6;
    private static final int MOST_SETS = 64;
    private static final int MOST_ACTS = 14;
    private static final int MOST_SLOTS = 2;
    private static final int MOST_TOLD = 5;
    private static final int MOST_GIVEN = 3;
    private static final int MOST_PLACED = 60;
    private static final int MOST_WINTERS = 20;
    private static final int HIGHEST = 15;
    private static final int WORST_STORM = 20;
    private static final int NET_BASE = 100;

    private static final int MOLES = 1, ROOTS = 2, STONE = 3;

    /** More than any stretches can need: it marks sets that can not be the ones that hold. */
    private static final int FAR = 1000000;

    private static final long SEED_FACTOR = 6364136223846793005L;
    private static final long SEED_STEP = 1442695040888963407L;

    /** The greatest figure of a farm's height, grass, clay, worth and kind. */
    private static final int[] GREATEST = {9, 3, 9, 9, 3};

    /** In how many orders so many farms can come. */
    private static final int[] ORDERS = {1, 1, 2, 6, 24, 120, 720};

    private final Script script;
    private int farms;
    private final int[] grass;
    private final int[] worth;
    private final int[] kind;
    private final Held now;
    private final Held[] past;
    private int firstAct;
    private int acts;
    private final Held[] slots;
    private int kept;
    private long theSeed;

    // Rows for reckoning, made once so that no call makes any.
    private final int[] tried;
    private final int[] stormRow;
    private final int[] wetByGiven;
    private final int[] lossWith;
    private final int[] clayFor;
    private final int[] bySet;

    public DykeFarms() {
        script = new Script();
        grass = new int[MOST_FARMS];
        worth = new int[MOST_FARMS];
        kind = new int[MOST_FARMS];
        now = new Held();
        past = new Held[MOST_ACTS];
        for (int i = 0; i < MOST_ACTS; i++) {
            past[i] = new Held();
        }
        slots = new Held[MOST_SLOTS];
        for (int i = 0; i < MOST_SLOTS; i++) {
            slots[i] = new Held();
        }
        tried = new int[MOST_FARMS];
        stormRow = new int[MOST_TOLD];
        wetByGiven = new int[2 * MOST_GIVEN + 1];
        lossWith = new int[MOST_SETS];
        clayFor = new int[MOST_SETS];
        bySet = new int[MOST_SETS];
    }

    // ---- the dyke

    public int write(int letter) {
        if (letter < 0 || letter > 255) {
            return BAD;
        }
        if (script.length >= MOST_LETTERS) {
            return FULL;
        }
        script.letters[script.length] = letter;
        script.length++;
        return script.length;
    }

    public int wipe() {
        int before = script.length;
        script.length = 0;
        return before;
    }

    public int fault() {
        return script.firstFault();
    }

    public int dyke() {
        if (script.firstFault() != NONE) {
            return LATE;
        }
        farms = 0;
        acts = 0;
        kept = 0;
        now.clear();
        int place = 1;
        while (place < script.length) {
            if (script.letterAt(place) == 'F') {
                settleFarm(place + 1);
                place += GREATEST.length + 1;
            } else {
                now.dams |= bit(script.figureAt(place + 1));
                place += 2;
            }
        }
        return farms;
    }

    public int about(int what) {
        switch (what) {
            case 0:
                return farms;
            case 1:
                return now.dams;
            case 2:
                return now.spades;
            case 3:
                return now.tide;
            case 4:
                return clayOf(everyFarm());
            case 5:
                return acts;
            case 6:
                return script.length;
            default:
                return BAD;
        }
    }

    public int farm(int farm, int what) {
        if (!isFarm(farm)) {
            return UNKNOWN;
        }
        switch (what) {
            case 0:
                return now.high[farm];
            case 1:
                return grass[farm];
            case 2:
                return now.clay[farm];
            case 3:
                return worth[farm];
            case 4:
                return kind[farm];
            case 5:
                return now.keeper[farm];
            case 6:
                return strengthAt(farm, now.high[farm]);
            default:
                return BAD;
        }
    }

    public int owes(int farm, int other) {
        if (!isFarm(farm) || !isFarm(other)) {
            return UNKNOWN;
        }
        return now.owed[farm][other];
    }

    // ---- acts

    public int storm(int x) {
        if (!isStorm(x)) {
            return BAD;
        }
        remember();
        int broken = strike(now.high, x);
        now.spades |= broken;
        now.tide++;
        return worthOf(wetBy(broken));
    }

    public int carry(int farm, int stretch) {
        if (!isFarm(farm) || !isFarm(stretch)) {
            return UNKNOWN;
        }
        if (now.clay[farm] < 1) {
            return LATE;
        }
        if (now.high[stretch] >= HIGHEST) {
            return FULL;
        }
        remember();
        now.clay[farm]--;
        now.high[stretch]++;
        return now.high[stretch];
    }

    public int lend(int farm, int other) {
        if (!isFarm(farm) || !isFarm(other)) {
            return UNKNOWN;
        }
        if (farm == other) {
            return BAD;
        }
        if (now.clay[farm] < 1) {
            return LATE;
        }
        remember();
        now.clay[farm]--;
        now.clay[other]++;
        now.owed[other][farm]++;
        return now.owed[other][farm];
    }

    public int stick(int stretch) {
        if (!isFarm(stretch)) {
            return UNKNOWN;
        }
        if (has(now.spades, stretch)) {
            return LATE;
        }
        remember();
        now.spades |= bit(stretch);
        return now.keeper[stretch];
    }

    public int pull(int farm, int stretch) {
        if (!isFarm(farm) || !isFarm(stretch)) {
            return UNKNOWN;
        }
        if (!has(now.spades, stretch)) {
            return LATE;
        }
        remember();
        int before = now.keeper[stretch];
        now.spades &= ~bit(stretch);
        now.keeper[stretch] = farm;
        return before;
    }

    public int dam(int farm) {
        if (!isFarm(farm) || farm == farms - 1) {
            return UNKNOWN;
        }
        remember();
        now.dams ^= bit(farm);
        return has(now.dams, farm) ? 1 : 0;
    }

    public int undo() {
        if (acts < 1) {
            return LATE;
        }
        acts--;
        now.takeOver(past[actRow(acts)]);
        return acts;
    }

    // ---- storms

    public int breaks(int x) {
        return isStorm(x) ? brokenBy(x) : BAD;
    }

    public int drowns(int x) {
        return isStorm(x) ? wetBy(brokenBy(x)) : BAD;
    }

    public int loss(int x) {
        return isStorm(x) ? worthOf(wetBy(brokenBy(x))) : BAD;
    }

    public int needs(int x) {
        return isStorm(x) ? lackOf(everyFarm(), x) : BAD;
    }

    public int placing(int n, int x, int what) {
        if (n < 0 || n > MOST_PLACED || !isStorm(x) || what < 0 || what > 1) {
            return BAD;
        }
        reckonSets(x);
        int best = bestSet(n);
        return what == 0 ? lossWith[best] : best;
    }

    public int all() {
        int best = NONE;
        int most = -1;
        for (int i = 0; i < farms; i++) {
            int lost = worthOf(wetBy(bit(i)));
            if (lost > most) {
                most = lost;
                best = i;
            }
        }
        return best;
    }

    public int told(int stretch, int n, long storms, int what) {
        if (!isFarm(stretch)) {
            return UNKNOWN;
        }
        if (n < 1 || n > MOST_TOLD || !readStorms(n, storms) || what < 0 || what > 2) {
            return BAD;
        }
        int first = NONE;
        int goes = NONE;
        copyRow(now.high, tried);
        for (int i = 0; i < n; i++) {
            int broken = strike(tried, stormRow[i]);
            if (first == NONE && broken != 0) {
                first = i;
            }
            if (goes == NONE && has(broken, stretch)) {
                goes = i;
            }
        }
        if (what == 2) {
            return tried[stretch];
        }
        return what == 0 ? first : goes;
    }

    public int wet(int lands, int what) {
        if (lands < 0 || lands > everyFarm() || what < 0 || what > 2) {
            return BAD;
        }
        int many = 0;
        int inAll = everyFarm();
        int inSome = 0;
        for (int set = 0; set <= everyFarm(); set++) {
            if (wetBy(set) == lands) {
                many++;
                inAll &= set;
                inSome |= set;
            }
        }
        if (what == 0) {
            return many;
        }
        if (many == 0) {
            return NONE;
        }
        return what == 1 ? inAll : everyFarm() & ~inSome;
    }

    // ---- owed

    public int net(int farm) {
        return isFarm(farm) ? NET_BASE + netOf(farm) : UNKNOWN;
    }

    public int payings() {
        int unsettled = 0;
        for (int i = 0; i < farms; i++) {
            if (netOf(i) != 0) {
                unsettled |= bit(i);
            }
        }
        return Integer.bitCount(unsettled) - mostCuts(unsettled);
    }

    public int share(int farm, int x, boolean upper) {
        if (!isFarm(farm)) {
            return UNKNOWN;
        }
        if (!isStorm(x)) {
            return BAD;
        }
        reckonSets(x);
        for (int set = 0; set <= everyFarm(); set++) {
            bySet[set] = lossWith[bestSet(clayOf(set))];
        }
        int saved = 0;
        for (int set = 0; set <= everyFarm(); set++) {
            if (!has(set, farm)) {
                int before = Integer.bitCount(set);
                int orders = ORDERS[before] * ORDERS[farms - 1 - before];
                saved += orders * (bySet[set] - bySet[set | bit(farm)]);
            }
        }
        return inLeastTerms(saved, ORDERS[farms], upper);
    }

    // ---- rests, chances

    public int rests(int farm, int other, int stretch, int x, int what) {
        if (!isFarm(farm) || !isFarm(other) || !isFarm(stretch)) {
            return UNKNOWN;
        }
        if (farm == other || !isStorm(x) || what < 0 || what > 1) {
            return BAD;
        }
        reckonGiven(stretch, x);
        int many = 0;
        int first = NONE;
        for (int one = 0; one <= MOST_GIVEN; one++) {
            for (int two = 0; two <= MOST_GIVEN; two++) {
                if (isContent(farm, one, two) && isContent(other, two, one)) {
                    many++;
                    first = first == NONE ? 10 * one + two : first;
                }
            }
        }
        return what == 0 ? many : first;
    }

    public int threes(int stretch, int a, int b, int t, boolean upper) {
        if (!isFarm(stretch)) {
            return UNKNOWN;
        }
        if (!isStorm(a) || !isStorm(b) || t < 0 || t > 10) {
            return BAD;
        }
        int chances = 0;
        for (int highOnes = 0; highOnes < 8; highOnes++) {
            if (holdsThrough(stretch, a, b, highOnes)) {
                chances += chanceOf(highOnes, t);
            }
        }
        return inLeastTerms(chances, 1000, upper);
    }

    public long seed(long v) {
        long before = theSeed;
        theSeed = v;
        return before;
    }

    public int winters(int m) {
        if (m < 1 || m > MOST_WINTERS) {
            return BAD;
        }
        int lost = 0;
        copyRow(now.high, tried);
        for (int i = 0; i < m; i++) {
            theSeed = theSeed * SEED_FACTOR + SEED_STEP;
            int x = (int) ((theSeed >>> 33) % 16);
            lost += worthOf(wetBy(strike(tried, x)));
        }
        return lost;
    }

    // ---- slots

    public int keep(int slot) {
        if (slot < 0 || slot >= MOST_SLOTS) {
            return UNKNOWN;
        }
        slots[slot].takeOver(now);
        kept |= bit(slot);
        return now.tide;
    }

    public int again(int slot) {
        if (slot < 0 || slot >= MOST_SLOTS) {
            return UNKNOWN;
        }
        if (!has(kept, slot)) {
            return LATE;
        }
        now.takeOver(slots[slot]);
        acts = 0;
        return now.tide;
    }

    // ---- what the calls rest on

    private boolean isFarm(int farm) {
        return farm >= 0 && farm < farms;
    }

    private static boolean isStorm(int x) {
        return x >= 0 && x <= WORST_STORM;
    }

    private static int bit(int place) {
        return 1 << place;
    }

    private static boolean has(int bits, int place) {
        return (bits >> place & 1) != 0;
    }

    private int everyFarm() {
        return (1 << farms) - 1;
    }

    private static void copyRow(int[] from, int[] to) {
        for (int i = 0; i < from.length && i < to.length; i++) {
            to[i] = from[i];
        }
    }

    /** A farm behind all others, whose figures begin at a place of the text. */
    private void settleFarm(int place) {
        if (farms >= MOST_FARMS) {
            return;
        }
        now.high[farms] = script.figureAt(place);
        grass[farms] = script.figureAt(place + 1);
        now.clay[farms] = script.figureAt(place + 2);
        worth[farms] = script.figureAt(place + 3);
        kind[farms] = script.figureAt(place + 4);
        now.keeper[farms] = farms;
        farms++;
    }

    private int actRow(int act) {
        return (firstAct + act) % MOST_ACTS;
    }

    /** Called ahead of each act, once it can't be refused any more. */
    private void remember() {
        if (acts == MOST_ACTS) {
            firstAct = actRow(1);
            acts--;
        }
        past[actRow(acts)].takeOver(now);
        acts++;
    }

    private int strengthAt(int stretch, int high) {
        switch (kind[stretch]) {
            case MOLES:
                return high;
            case ROOTS:
                return high + 2 * grass[stretch];
            case STONE:
                return high + grass[stretch] + 2;
            default:
                return high + grass[stretch];
        }
    }

    private int heightBehind(int stretch, int high, int x) {
        int strength = strengthAt(stretch, high);
        if (x > strength) {
            return 0;
        }
        return x == strength ? Math.max(high - 1, 0) : high;
    }

    private int brokenBy(int x) {
        int broken = 0;
        for (int i = 0; i < farms; i++) {
            if (x > strengthAt(i, now.high[i])) {
                broken |= bit(i);
            }
        }
        return broken;
    }

    /** A storm changes the heights: the stretches that it breaks. */
    private int strike(int[] heights, int x) {
        int broken = 0;
        for (int i = 0; i < farms && i < heights.length; i++) {
            if (x > strengthAt(i, heights[i])) {
                broken |= bit(i);
            }
            heights[i] = heightBehind(i, heights[i], x);
        }
        return broken;
    }

    private int wetBy(int broken) {
        int wetLands = broken;
        for (int i = 0; i < farms - 1; i++) {
            if (has(wetLands, i) && !has(now.dams, i)) {
                wetLands |= bit(i + 1);
            }
        }
        for (int i = farms - 2; i >= 0; i--) {
            if (has(wetLands, i + 1) && !has(now.dams, i)) {
                wetLands |= bit(i);
            }
        }
        return wetLands;
    }

    private int worthOf(int lands) {
        int sum = 0;
        for (int i = 0; i < farms; i++) {
            if (has(lands, i)) {
                sum += worth[i];
            }
        }
        return sum;
    }

    private int clayOf(int set) {
        int sum = 0;
        for (int i = 0; i < farms; i++) {
            if (has(set, i)) {
                sum += now.clay[i];
            }
        }
        return sum;
    }

    /** The loads that stretches lack to be just strong enough. */
    private int lackOf(int stretches, int x) {
        int sum = 0;
        for (int i = 0; i < farms; i++) {
            if (has(stretches, i)) {
                sum += Math.max(x - strengthAt(i, now.high[i]), 0);
            }
        }
        return sum;
    }

    /** For each set of stretches: what it takes that just these hold, and what is lost then. */
    private void reckonSets(int x) {
        int asItIs = everyFarm() & ~brokenBy(x);
        for (int set = 0; set <= everyFarm(); set++) {
            boolean canBe = (set & asItIs) == asItIs;
            clayFor[set] = canBe ? lackOf(set, x) : FAR;
            lossWith[set] = worthOf(wetBy(everyFarm() & ~set));
        }
    }

    /** The set of stretches that n loads make hold best, by what reckonSets left. */
    private int bestSet(int n) {
        int best = everyFarm();
        boolean found = false;
        for (int set = 0; set <= everyFarm(); set++) {
            if (clayFor[set] <= n && (!found || isBetter(set, best))) {
                best = set;
                found = true;
            }
        }
        return best;
    }

    private boolean isBetter(int set, int than) {
        if (lossWith[set] != lossWith[than]) {
            return lossWith[set] < lossWith[than];
        }
        return clayFor[set] < clayFor[than];
    }

    /** Takes told storms apart into stormRow; false if they are no n storms. */
    private boolean readStorms(int n, long storms) {
        if (storms < 0) {
            return false;
        }
        long left = storms;
        for (int i = n - 1; i >= 0; i--) {
            stormRow[i] = (int) (left % 100);
            left /= 100;
            if (!isStorm(stormRow[i])) {
                return false;
            }
        }
        return left == 0;
    }

    private int netOf(int farm) {
        int sum = 0;
        for (int i = 0; i < farms; i++) {
            sum += now.owed[i][farm] - now.owed[farm][i];
        }
        return sum;
    }

    /** The most sets into which farms can be cut so that each comes to nothing by itself. */
    private int mostCuts(int unsettled) {
        for (int set = 0; set <= unsettled; set++) {
            int most = 0;
            int sum = 0;
            for (int i = 0; i < farms; i++) {
                if (has(set, i)) {
                    most = Math.max(most, bySet[set & ~bit(i)]);
                    sum += netOf(i);
                }
            }
            bySet[set] = set != 0 && sum == 0 ? most + 1 : most;
        }
        return bySet[unsettled];
    }

    /** Which lands are wet by a storm, for each number of loads given to a stretch. */
    private void reckonGiven(int stretch, int x) {
        int elsewhere = brokenBy(x) & ~bit(stretch);
        int strength = strengthAt(stretch, now.high[stretch]);
        for (int given = 0; given < wetByGiven.length; given++) {
            int here = x > strength + given ? bit(stretch) : 0;
            wetByGiven[given] = wetBy(elsewhere | here);
        }
    }

    private int leftOver(int farm, int gives, int otherGives) {
        boolean drowned = has(wetByGiven[gives + otherGives], farm);
        return (drowned ? 0 : worth[farm]) - gives;
    }

    private boolean isContent(int farm, int gives, int otherGives) {
        int left = leftOver(farm, gives, otherGives);
        for (int instead = 0; instead <= MOST_GIVEN; instead++) {
            if (leftOver(farm, instead, otherGives) > left) {
                return false;
            }
        }
        return true;
    }

    private boolean holdsThrough(int stretch, int a, int b, int highOnes) {
        int high = now.high[stretch];
        for (int i = 0; i < 3; i++) {
            int x = has(highOnes, i) ? a : b;
            if (x > strengthAt(stretch, high)) {
                return false;
            }
            high = heightBehind(stretch, high, x);
        }
        return true;
    }

    /** In thousandths, that of three storms just these are high. */
    private static int chanceOf(int highOnes, int tenths) {
        int chance = 1;
        for (int i = 0; i < 3; i++) {
            chance *= has(highOnes, i) ? tenths : 10 - tenths;
        }
        return chance;
    }

    private static int inLeastTerms(int above, int below, boolean upper) {
        int common = commonDivisor(above, below);
        int part = upper ? above : below;
        return common == 0 ? part : part / common;
    }

    private static int commonDivisor(int one, int two) {
        int larger = one;
        int smaller = two;
        for (int i = 0; i < 64 && smaller != 0; i++) {
            int rest = larger % smaller;
            larger = smaller;
            smaller = rest;
        }
        return larger;
    }

    /** THE TEXT, and whether it is a dyke. */
    private static final class Script {
        private final int[] letters = new int[MOST_LETTERS];
        private int length;

        private int letterAt(int place) {
            boolean there = place >= 0 && place < length && place < letters.length;
            return there ? letters[place] : -1;
        }

        /** 0 to 9; -1 where no figure stands. */
        private int figureAt(int place) {
            int letter = letterAt(place);
            return letter >= '0' && letter <= '9' ? letter - '0' : -1;
        }

        /** How many of a farm's figures are right from a place on, up to the first that is not. */
        private int rightFigures(int place) {
            for (int i = 0; i < GREATEST.length; i++) {
                int figure = figureAt(place + i);
                if (figure < 0 || figure > GREATEST[i]) {
                    return i;
                }
            }
            return GREATEST.length;
        }

        private int firstFault() {
            if (letterAt(0) != 'D') {
                return 0;
            }
            int farmsTold = 0;
            int damsTold = 0;
            int place = 1;
            while (place < length) {
                int letter = letterAt(place);
                if (letter == 'F' && farmsTold < MOST_FARMS) {
                    int right = rightFigures(place + 1);
                    if (right < GREATEST.length) {
                        return place + 1 + right;
                    }
                    farmsTold++;
                    place += GREATEST.length + 1;
                } else if (letter == 'I' && Integer.bitCount(damsTold) < farmsTold - 1) {
                    int ahead = figureAt(place + 1);
                    if (ahead < 0 || ahead >= farmsTold - 1 || has(damsTold, ahead)) {
                        return place + 1;
                    }
                    damsTold |= bit(ahead);
                    place += 2;
                } else {
                    return place;
                }
            }
            return NONE;
        }
    }

    /** What acts change: taken over whole, to be undone or kept. */
    private static final class Held {
        private final int[] high = new int[MOST_FARMS];
        private final int[] clay = new int[MOST_FARMS];
        private final int[] keeper = new int[MOST_FARMS];
        private final int[][] owed = new int[MOST_FARMS][MOST_FARMS];
        private int spades;
        private int dams;
        private int tide;

        private void clear() {
            Arrays.fill(high, 0);
            Arrays.fill(clay, 0);
            Arrays.fill(keeper, 0);
            for (int i = 0; i < MOST_FARMS; i++) {
                Arrays.fill(owed[i], 0);
            }
            spades = 0;
            dams = 0;
            tide = 0;
        }

        private void takeOver(Held from) {
            copyRow(from.high, high);
            copyRow(from.clay, clay);
            copyRow(from.keeper, keeper);
            for (int i = 0; i < MOST_FARMS; i++) {
                copyRow(from.owed[i], owed[i]);
            }
            spades = from.spades;
            dams = from.dams;
            tide = from.tide;
        }
    }
}
