import java.io.IOException;
import java.nio.file.Files;
import java.nio.file.Path;
import java.util.List;
import java.util.regex.Matcher;
import java.util.regex.Pattern;

/** Each sentence of the document, in its order, with the tests that fail if it is broken. */
public final class SentencesTest {
    private static final Path DOCUMENT = Path.of("../shared/DOC.md");

    /** A sentence that tells the whole in short, or leaves something free. */
    private static final String NONE = "";

    private static final String[][] BEGINNING = {
        {"Kept in turns for the sea: a dyke is held by farms, each a stretch, he who can not keep his sticks his spade "
                + "in it and goes, told as a text with the first fault; stretches by height, grass, clay, what lies "
                + "behind, by who keeps them, dams between; storms, clay carried, lent, spades stuck in and pulled "
                + "out, dams, all undone; what breaks, what drowns, what is lost, what is owed; least clay so that all "
                + "holds, where it should break if there is too little, which stretch is all; storms told one by one, "
                + "the first that breaks, who must go; who let it sink, by what is wet; nets of what was lent, by "
                + "fewest payings, shares of farms in what is saved; neighbours who wait, at rest; storms by threes by "
                + "chance, winters by a seed; kept and gone on from.", NONE},
        {"FARMS, each with its STRETCH, are 0, 1, .. along the sea (6 at most).",
            "TextEdgesTest.sixFarmsAtMost TextEdgesTest.numberedAsTold"},
        {"An object is used for at most 512 calls after it has been made; what later calls answer is free.",
            "CallsTest.theLastOf512"},
        {"THE TEXT is bytes (48 at most).", "TextEdgesTest.bytesOfTheText TextEdgesTest.fullText"},
        {"A DYKE is a TEXT: D, then PARTS, none or more,", "TextEdgesTest.firstByte TextEdgesTest.partsNoneOrMore"},
        {"FARMS numbered as they are told:", "TextEdgesTest.numberedAsTold"},
        {"Fhgcvk a FARM behind all others: its STRETCH is h (0 .. 9) high, has GRASS g (0 .. 3), "
                + "the FARM has c (0 .. 9) loads of CLAY, LAND worth v (0 .. 9); k: 0 PLAIN, 1 MOLES, 2 ROOTS, 3 STONE",
            "TextEdgesTest.eachFigure TextEdgesTest.figuresReadBack TextEdgesTest.strengths"},
        {"Ii a DAM between the LANDS of FARM i and of the next one (both told ahead, none there so far)",
            "TextEdgesTest.damsBothToldAhead TextEdgesTest.damsNoneThereSoFar "
                + "ActsEdgesTest.drownsAsFarAsThereIsNoDam"},
        {"FAULT: the place (from 0) of the first byte by which THE TEXT can be no DYKE, whatever came behind it "
                + "(its length set aside);",
            "TextEdgesTest.firstOfSeveralFaults TextEdgesTest.faultsOfAnyTexts TextEdgesTest.lengthSetAside"},
        {"its length, if it is only not at its end; NONE: none.", "TextEdgesTest.onlyNotAtItsEnd"},
        {"At first there is nothing.", "TextEdgesTest.nothingThereYet"},
        {"When THE DYKE is made anew, each FARM keeps its STRETCH, nobody owes anything, no SPADE is stuck in, "
                + "THE TIDE is 0.", "TextEdgesTest.madeAnew TextEdgesTest.madeOfOtherFarms"},
        {"STRENGTH of a STRETCH: its height and GRASS (MOLES: GRASS does not count; ROOTS: GRASS counts twice; "
                + "STONE: 2 more).", "TextEdgesTest.strengths"},
        {"A STORM of x (0 .. 20):", "ActsEdgesTest.leastAndGreatestStorm StormsEdgesTest.leastAndGreatestStorm "
                + "ChancesEdgesTest.restsLeastAndGreatestStorm"},
        {"a STRETCH BREAKS, if x is more than its STRENGTH.", "ActsEdgesTest.breaksIfMore"},
        {"Where one BREAKS, its LAND drowns, and each next LAND as far as there is no DAM, on both sides.",
            "ActsEdgesTest.drownsAsFarAsThereIsNoDam"},
        {"Behind it, a STRETCH that did not BREAK and whose STRENGTH was x just is 1 lower (0 at least); "
                + "one that did is 0 high, a SPADE is stuck in it.",
            "ActsEdgesTest.breaksIfMore ActsEdgesTest.spadesByStorms"},
        {"THE TIDE is one more.", "ActsEdgesTest.tideIsOneMore"},
        {"CARRIED: a load of CLAY of a FARM is put on a STRETCH: it is one higher (15 at most).",
            "ActsEdgesTest.carriedTo15 ActsEdgesTest.carriedLastLoad ActsEdgesTest.carriedByEachToEach"},
        {"LENT: a load of a FARM is another one's, which owes it one more.",
            "ActsEdgesTest.lentLastLoad ActsEdgesTest.lentOneMore ActsEdgesTest.lentByEachToEach"},
        {"STUCK: the keeper of a STRETCH sticks its SPADE in, and keeps it till the SPADE is pulled out.",
            "ActsEdgesTest.stuckKeepsIt"},
        {"PULLED: a FARM pulls the SPADE out of a STRETCH and keeps it from then on.",
            "ActsEdgesTest.pulledKeepsItFromThenOn ActsEdgesTest.pulledByEachFromEach"},
        {"DAM: it is built behind a FARM (towards the next one), or torn down.", "ActsEdgesTest.damOfEachFarm"},
        {"ACTS (STORMS, CARRIED, LENT, STUCK, PULLED, DAM) are a row",
            "ActsEdgesTest.eachIsAnAct ActsEdgesTest.notAnAct"},
        {"(14 at most; when it is full, the first one is forgotten);",
            "ActsEdgesTest.fourteenActs ActsEdgesTest.actsBehindUndone"},
        {"the last one can be undone.", "ActsEdgesTest.undoneOfEachKind"},
    };

    private static final String[][] ASKED = {
        {"In what follows nothing is changed.",
            "StormsEdgesTest.nothingIsChanged OwedEdgesTest.nothingIsChanged ChancesEdgesTest.nothingIsChanged"},
        {"BREAKS, DROWNS by a STORM of x (bits).", "StormsTest.breaksDrownsLoss StormsEdgesTest.leastAndGreatestStorm"},
        {"LOSS: worth of all LANDS that drown.", "ActsEdgesTest.drownsAsFarAsThereIsNoDam StormsTest.breaksDrownsLoss"},
        {"NEEDS: the least CLAY by which no STRETCH BREAKS in a STORM of x (15 does not count here).",
            "StormsEdgesTest.needsJust StormsEdgesTest.fifteenDoesNotCount"},
        {"PLACING of n loads (0 .. 60):", "StormsEdgesTest.placingOfLoads"},
        {"some STRETCHES are made just strong enough for a STORM of x, together by n loads or fewer "
                + "(15 does not count here; one that holds as it is needs none):",
            "StormsEdgesTest.placingOfLoads StormsEdgesTest.fifteenDoesNotCount StormsEdgesTest.placingHoldsAsItIs"},
        {"the least LOSS then;", "StormsEdgesTest.placingOfLeastLoss"},
        {"the STRETCHES that hold then (bits), of like ones by least CLAY, then the least by bits.",
            "StormsEdgesTest.placingOfLikeOnes"},
        {"ALL: the STRETCH that, BROKEN alone, drowns most worth; of like ones the least; NONE: there is none.",
            "StormsEdgesTest.allBrokenAlone StormsEdgesTest.allOfLikeOnes StormsEdgesTest.noFarms"},
        {"TOLD STORMS: n (1 .. 5), each two figures (00 .. 20), one behind the other, the first one's the highest:",
            "StormsEdgesTest.toldOneToFive StormsEdgesTest.toldFigures StormsEdgesTest.toldAsActs"},
        {"FIRST: the first one (its place, from 0) by which something BREAKS; NONE.", "StormsEdgesTest.toldFirst"},
        {"GOES: the first one (likewise) by which a told STRETCH BREAKS; NONE.", "StormsEdgesTest.toldGoes"},
        {"LEFT: the height of a STRETCH behind all.", "StormsEdgesTest.toldLeft"},
        {"WET: sets of STRETCHES (bits) by which, BROKEN, just told LANDS (bits) drown: how many; "
                + "which are in all; in none; NONE.",
            "StormsEdgesTest.wetByNothing StormsEdgesTest.wetByAll StormsEdgesTest.wetNone"},
        {"NET of a FARM: what it is owed less what it owes.", "OwedEdgesTest.netIsOwedLessOwes"},
        {"PAYINGS: the fewest payings by which all NETS come to nothing:", "OwedEdgesTest.payingsFewest"},
        {"as many as FARMS whose NET is not nothing less the most sets into which these can be cut so that each comes "
                + "to nothing by itself.", "OwedEdgesTest.payingsOfNoNets OwedEdgesTest.payingsOfCuts"},
        {"SHARE of a FARM by a STORM of x: if FARMS come one by one, in each order as likely,",
            "OwedEdgesTest.shareOfOrders"},
        {"all CLAY of those that have come may be put on any STRETCHES (PLACING):",
            "OwedEdgesTest.shareOfAllClay OwedEdgesTest.shareOfAnyStretches"},
        {"by how much in the mean LOSS is less when it has come than it was: a FRACTION.",
            "OwedEdgesTest.shareOfOrders OwedEdgesTest.shareOfNothing OwedEdgesTest.shareAboveAndBelow "
                + "OwedEdgesTest.sharesComeToAllThatIsSaved"},
        {"RESTS of two FARMS for a STRETCH and a STORM of x: each gives 0 .. 3 loads to it "
                + "(as if they had them; 15 does not count here);",
            "ChancesEdgesTest.restsOfLoads ChancesEdgesTest.restsAsIfTheyHadThem"},
        {"each has worth of its own LAND, if it does not drown then (all else as it is), less what it gives:",
            "ChancesEdgesTest.restsOfOwnLand ChancesEdgesTest.restsAllElse"},
        {"pairs in which neither has more by giving otherwise alone: how many; the first one "
                + "(10 times the one and the other); NONE.",
            "ChancesEdgesTest.restsNeitherHasMore ChancesEdgesTest.restsOneAndOther ChancesEdgesTest.restsAlwaysOne"},
        {"THREES: three STORMS one behind the other,", "ChancesEdgesTest.threesOneBehindTheOther"},
        {"each of high a (0 .. 20) by t tenths (0 .. 10), else of low b (0 .. 20), by itself:",
            "ChancesEdgesTest.threesTenths ChancesEdgesTest.threesLeastAndGreatest"},
        {"the chance that a STRETCH BREAKS in none: a FRACTION.",
            "ChancesEdgesTest.threesOfTheStretch ChancesEdgesTest.threesAsActs"},
        {"WINTERS by THE SEED: m STORMS (1 .. 20),", "ChancesEdgesTest.wintersOneToTwenty"},
        {"for each x (THE SEED, a long; 0 at first) becomes x times 6364136223846793005 and 1442695040888963407 "
                + "(64 bits, wrapping);",
            "ChancesEdgesTest.seedIsALong ChancesEdgesTest.seedWraps TextEdgesTest.nothingThereYet"},
        {"what is left of its upper 31 bits by 16 is the STORM:", "ChancesEdgesTest.stormOfItsUpperBits"},
        {"LOSS by all of them together.", "ChancesEdgesTest.wintersLossTogether"},
        {"(Nothing changes but THE SEED.)", "ChancesEdgesTest.nothingIsChanged ChancesEdgesTest.seedWraps"},
        {"SLOTS 0 .. 1", "SlotsEdgesTest.leastAndGreatestSlot SlotsEdgesTest.slotsApart"},
        {"keep heights, CLAY, keepers, SPADES, DAMS, what is owed, THE TIDE",
            "SlotsEdgesTest.eachThingThatIsKept SlotsEdgesTest.notKept"},
        {"(no ACTS when one goes on).", "SlotsEdgesTest.noActsWhenOneGoesOn"},
        {"REFUSALS: UNKNOWN -1 (there is no such FARM, STRETCH, SLOT), BAD -2, LATE -3, FULL -4.",
            "DykeTest.constants RefusalsTest.noFarms"},
        {"Of several what is told first.", "RefusalsTest.acts RefusalsTest.rests RefusalsTest.writeWhenFull"},
        {"What is refused changes nothing.", "RefusalsTest.refused"},
        {"NONE is -9.", "DykeTest.constants"},
        {"FRACTIONS are told above (upper = true), below, in least terms.",
            "OwedEdgesTest.shareAboveAndBelow ChancesEdgesTest.threesTenths"},
        {"Ahead of the calls `write`, `wipe`, `fault`, `dyke`, `about`, `farm`, `owes` the interface says: "
                + "---- the dyke.", "SourceTest.sections"},
        {"Ahead of the calls `storm`, `carry`, `lend`, `stick`, `pull`, `dam`, `undo` the interface says: ---- acts.",
            "SourceTest.sections"},
        {"Ahead of the calls `breaks`, `drowns`, `loss`, `needs`, `placing`, `all`, `told`, `wet` the interface says: "
                + "---- storms.", "SourceTest.sections"},
        {"Ahead of the calls `net`, `payings`, `share` the interface says: ---- owed.", "SourceTest.sections"},
        {"Ahead of the calls `rests`, `threes`, `seed`, `winters` the interface says: ---- rests, chances.",
            "SourceTest.sections"},
        {"Ahead of the calls `keep`, `again` the interface says: ---- slots.", "SourceTest.sections"},
    };

    private static final String[][] PROMISES = {
        {"`DykeFarms()`: No farms.", "TextEdgesTest.nothingThereYet StormsEdgesTest.noFarms CallsTest.objectsApart"},
        {"`int write(int letter)`: A byte (0 .. 255) comes behind THE TEXT: how long it is.",
            "TextEdgesTest.bytesOfTheText"},
        {"BAD; FULL: there are 48.", "RefusalsTest.theDyke RefusalsTest.writeWhenFull TextEdgesTest.fullText"},
        {"`int wipe()`: THE TEXT is empty: how long it was.", "TextEdgesTest.emptyText TextEdgesTest.wipedAlone"},
        {"`int fault()`: FAULT; NONE.", "TextEdgesTest.firstOfSeveralFaults TextEdgesTest.onlyNotAtItsEnd"},
        {"`int dyke()`: THE TEXT is THE DYKE (THE TEXT itself stays; no ACTS; what was kept is gone; THE SEED stays): "
                + "how many FARMS.",
            "TextEdgesTest.madeAnew TextEdgesTest.madeOfOtherFarms TextEdgesTest.seedStays "
                + "SlotsEdgesTest.goneByTheDyke"},
        {"LATE: a FAULT.", "RefusalsTest.dykeWithAFault"},
        {"`int about(int what)`: FARMS (what = 0), DAMS (1: bits by the FARM ahead), SPADES (2: bits), THE TIDE (3), "
                + "CLAY of all (4), ACTS (5), bytes of THE TEXT (6).", "TextEdgesTest.aboutEach"},
        {"BAD.", "RefusalsTest.theDyke"},
        {"`int farm(int farm, int what)`: Of a FARM how high its STRETCH is (what = 0), GRASS (1), its CLAY (2), "
                + "its LAND's worth (3), k (4), who keeps the STRETCH (5), STRENGTH (6).",
            "TextEdgesTest.farmEach TextEdgesTest.figuresReadBack"},
        {"UNKNOWN; BAD.", "RefusalsTest.theDyke"},
        {"`int owes(int farm, int other)`: What a FARM owes another one.",
            "TextEdgesTest.owesAtFirst ActsEdgesTest.lentByEachToEach"},
        {"UNKNOWN: both.", "RefusalsTest.theDyke"},
        {"`int storm(int x)`: A STORM: its LOSS.",
            "ActsEdgesTest.drownsAsFarAsThereIsNoDam ActsEdgesTest.breaksIfMore"},
        {"BAD: x.", "RefusalsTest.acts"},
        {"`int carry(int farm, int stretch)`: CARRIED: how high the STRETCH is then.", "ActsEdgesTest.carriedTo15"},
        {"UNKNOWN: farm, stretch; LATE: the FARM has none; FULL: it is 15 high.", "RefusalsTest.acts"},
        {"`int lend(int farm, int other)`: LENT: what the other one owes it then.", "ActsEdgesTest.lentOneMore"},
        {"UNKNOWN: farm, other; BAD: both are one; LATE: the FARM has none.", "RefusalsTest.acts"},
        {"`int stick(int stretch)`: STUCK: who kept it.", "ActsEdgesTest.stuckKeepsIt"},
        {"UNKNOWN; LATE: a SPADE is stuck in.", "RefusalsTest.actsOfNone"},
        {"`int pull(int farm, int stretch)`: PULLED: who kept it.", "ActsEdgesTest.pulledKeepsItFromThenOn"},
        {"UNKNOWN: farm, stretch; LATE: no SPADE is stuck in.", "RefusalsTest.actsOfNone"},
        {"`int dam(int farm)`: DAM: 1 if there is one then, 0.", "ActsEdgesTest.damOfEachFarm"},
        {"UNKNOWN: farm (the last one, too).", "RefusalsTest.actsOfNone RefusalsTest.oneFarmHasNoNeighbour"},
        {"`int undo()`: The last ACT is undone: how many are left.",
            "ActsEdgesTest.fourteenActs ActsEdgesTest.undoneOfEachKind"},
        {"LATE: there is none.", "ActsEdgesTest.fourteenActs RefusalsTest.noFarms"},
        {"`int breaks(int x)`: BREAKS, as bits.", "StormsTest.breaksDrownsLoss StormsEdgesTest.leastAndGreatestStorm"},
        {"BAD: x.", "RefusalsTest.storms"},
        {"`int drowns(int x)`: DROWNS, as bits.",
            "StormsTest.breaksDrownsLoss ActsEdgesTest.drownsAsFarAsThereIsNoDam"},
        {"BAD: x.", "RefusalsTest.storms"},
        {"`int loss(int x)`: LOSS.", "StormsTest.breaksDrownsLoss ActsEdgesTest.drownsAsFarAsThereIsNoDam"},
        {"BAD: x.", "RefusalsTest.storms"},
        {"`int needs(int x)`: NEEDS.", "StormsEdgesTest.needsJust"},
        {"BAD: x.", "RefusalsTest.storms"},
        {"`int placing(int n, int x, int what)`: PLACING: LOSS (what = 0), STRETCHES that hold (1: bits).",
            "StormsEdgesTest.placingOfLoads StormsEdgesTest.placingOfLeastLoss"},
        {"BAD: n, x, what.", "RefusalsTest.placing"},
        {"`int all()`: ALL; NONE.", "StormsEdgesTest.allOfLikeOnes StormsEdgesTest.noFarms"},
        {"`int told(int stretch, int n, long storms, int what)`: FIRST (what = 0), GOES (1), LEFT (2); NONE.",
            "StormsEdgesTest.toldFirst StormsEdgesTest.toldGoes StormsEdgesTest.toldLeft"},
        {"UNKNOWN: stretch; BAD: n, storms (0 or more, 2 n figures at most, each two 20 at most), what.",
            "RefusalsTest.told StormsEdgesTest.toldFigures"},
        {"`int wet(int lands, int what)`: WET: how many sets (what = 0), which STRETCHES are in all (1), in none (2), "
                + "as bits; NONE (of 1, 2).", "StormsEdgesTest.wetByAll StormsEdgesTest.wetNone"},
        {"BAD: lands (bits of FARMS that there are), what.", "RefusalsTest.storms StormsEdgesTest.wetByAll"},
        {"`int net(int farm)`: NET, and 100.", "OwedEdgesTest.netLeastAndGreatest"},
        {"UNKNOWN.", "RefusalsTest.owed"},
        {"`int payings()`: PAYINGS.", "OwedEdgesTest.payingsOfCuts"},
        {"`int share(int farm, int x, boolean upper)`: SHARE.", "OwedEdgesTest.shareOfOrders"},
        {"UNKNOWN; BAD: x.", "RefusalsTest.owed"},
        {"`int rests(int farm, int other, int stretch, int x, int what)`: RESTS: how many (what = 0), "
                + "the first one (1; NONE).", "ChancesEdgesTest.restsOfLoads ChancesEdgesTest.restsAlwaysOne"},
        {"UNKNOWN: farm, other, stretch; BAD: both FARMS are one, x, what.", "RefusalsTest.rests"},
        {"`int threes(int stretch, int a, int b, int t, boolean upper)`: THREES.", "ChancesEdgesTest.threesTenths"},
        {"UNKNOWN; BAD: a, b, t.", "RefusalsTest.chances"},
        {"`long seed(long v)`: THE SEED is v: what it was.", "ChancesEdgesTest.seedIsALong"},
        {"`int winters(int m)`: WINTERS.", "ChancesEdgesTest.wintersLossTogether"},
        {"BAD: m.", "RefusalsTest.chances"},
        {"`int keep(int slot)`: They are kept: THE TIDE.", "SlotsEdgesTest.keepChangesNothing SlotsEdgesTest.keptAnew"},
        {"UNKNOWN.", "RefusalsTest.slots"},
        {"`int again(int slot)`: They are as they were kept: THE TIDE.",
            "SlotsEdgesTest.goneOnFromTwice SlotsEdgesTest.eachThingThatIsKept"},
        {"UNKNOWN; LATE: none were kept.", "RefusalsTest.slots SlotsEdgesTest.nothingKeptYet"},
        {"How the state is held inside the object is free, as are the speed of each call, the text of toString and the "
                + "behaviour of equals and hashCode. Use of one object from several threads at once is not promised to "
                + "be safe. Nothing is promised beyond the answers and state changes described above, and nothing "
                + "about an object after its 512th call.", NONE},
    };

    public static void main(String[] args) throws IOException {
        String[][][] parts = {BEGINNING, ASKED, PROMISES};
        for (String[][] part : parts) {
            for (String[] row : part) {
                Due.by(row[0]);
                for (String test : row[1].isEmpty() ? new String[0] : row[1].split(" ")) {
                    isThere(test);
                }
            }
        }
        Due.by("[what the document says]");
        if (Files.exists(DOCUMENT)) {
            theyAreAllOfIt(sentences(Files.readAllLines(DOCUMENT)), parts);
        } else {
            System.out.println(DOCUMENT + " is not there: whether these are all its sentences is not looked at");
        }
        Due.end();
    }

    /** It is there, and called. */
    private static void isThere(String test) throws IOException {
        int dot = test.indexOf('.');
        Path file = Path.of("src/test/java/" + test.substring(0, dot) + ".java");
        String source = Files.exists(file) ? Files.readString(file) : "";
        Matcher name = Pattern.compile("\\b" + test.substring(dot + 1) + "\\(").matcher(source);
        int told = 0;
        while (name.find()) {
            told++;
        }
        Due.holds(test + " is there, and called", told > 1);
    }

    /** All but its headings, its fences, the face (SourceTest has it) and the numbers of its parts. */
    private static String sentences(List<String> lines) {
        StringBuilder text = new StringBuilder();
        boolean face = false;
        for (String line : lines) {
            if (line.startsWith("```")) {
                face = line.equals("```java");
            } else if (!face && !line.startsWith("#")) {
                text.append(line).append(' ');
            }
        }
        return text.toString().replaceAll("={8} \\d ", " ").replaceAll("\\s+", " ").trim();
    }

    private static void theyAreAllOfIt(String text, String[][][] parts) {
        int place = 0;
        for (String[][] part : parts) {
            for (String[] row : part) {
                boolean next = text.startsWith(row[0], place);
                Due.holds("\"" + row[0] + "\" comes ahead of \""
                        + text.substring(place, Math.min(place + 60, text.length())) + "\"", next);
                if (!next) {
                    return;
                }
                place += row[0].length();
                place += text.startsWith(" ", place) ? 1 : 0;
            }
        }
        Due.holds("nothing comes behind them: \"" + text.substring(place) + "\"", place == text.length());
    }
}
