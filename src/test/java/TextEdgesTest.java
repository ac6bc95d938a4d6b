/** The edges of THE TEXT, of FAULT, of THE DYKE and of what it is asked: promises 1 to 8, sentence by sentence. */
public final class TextEdgesTest {
    private static final String FIVE = "DF00000F93993F00000F93993F00000";
    private static final String SIX = FIVE + "F93993";
    private static final String LONGEST = SIX + "I0I1I2I3I4";
    private static final String FIGURES = "93993";
    private static final String WINTER = "DF50910F40020F60332I0";

    public static void main(String[] args) {
        nothingThereYet();
        bytesOfTheText();
        fullText();
        emptyText();
        wipedAlone();
        firstByte();
        partsNoneOrMore();
        eachFigure();
        figuresReadBack();
        sixFarmsAtMost();
        numberedAsTold();
        damsBothToldAhead();
        damsNoneThereSoFar();
        onlyNotAtItsEnd();
        lengthSetAside();
        firstOfSeveralFaults();
        faultsOfAnyTexts();
        madeAnew();
        madeOfOtherFarms();
        seedStays();
        aboutEach();
        farmEach();
        strengths();
        owesAtFirst();
        Due.end();
    }

    private static void nothingThereYet() {
        DykeFarms x = new DykeFarms();
        Due.by("DykeFarms(): No farms.");
        Due.is("about(0)", x.about(0), 0);
        Due.is("farm(0, 0)", x.farm(0, 0), -1);
        Due.by("At first there is nothing.");
        for (int what = 1; what <= 6; what++) {
            Due.is("about(" + what + ")", x.about(what), 0);
        }
        Due.is("fault() of the empty text", x.fault(), 0);
        Due.is("wipe()", x.wipe(), 0);
        Due.is("undo()", x.undo(), -3);
        Due.is("again(0)", x.again(0), -3);
        Due.is("again(1)", x.again(1), -3);
        Due.by("THE SEED, a long; 0 at first");
        Due.is("seed(1)", x.seed(1), 0);
    }

    private static void bytesOfTheText() {
        Due.by("A byte (0 .. 255) comes behind THE TEXT: how long it is.");
        for (int letter = 0; letter <= 255; letter++) {
            DykeFarms x = Due.text("D");
            Due.is("write(" + letter + ")", x.write(letter), 2);
            Due.is("about(6)", x.about(6), 2);
        }
    }

    private static void fullText() {
        Due.by("THE TEXT is bytes (48 at most); FULL: there are 48.");
        DykeFarms x = new DykeFarms();
        for (int i = 1; i <= 48; i++) {
            Due.is("write() of byte " + i, x.write(255), i);
        }
        Due.is("write(0) of byte 49", x.write(0), -4);
        Due.is("write(255) of byte 49", x.write(255), -4);
        Due.is("about(6)", x.about(6), 48);
        Due.by("THE TEXT is empty: how long it was.");
        Due.is("wipe() of 48", x.wipe(), 48);
        Due.is("write() of byte 1 behind it", x.write('D'), 1);
        Due.is("fault() of it", x.fault(), -9);
    }

    private static void emptyText() {
        Due.by("THE TEXT is empty: how long it was.");
        DykeFarms x = Due.text("DF00000");
        Due.is("wipe()", x.wipe(), 7);
        Due.is("wipe() of an empty text", x.wipe(), 0);
        Due.is("fault() of an empty text", x.fault(), 0);
        Due.is("dyke() of an empty text", x.dyke(), -3);
        Due.is("write() behind an empty text", x.write('D'), 1);
        Due.is("what was wiped is no more", x.dyke(), 0);
        Due.is("wipe() of one byte", x.wipe(), 1);
    }

    private static void wipedAlone() {
        Due.by("THE TEXT is empty [nothing else is changed]");
        Twins.same("wipe(), and the same bytes anew,", TextEdgesTest::winter, x -> {
            x.wipe();
            Due.write(x, WINTER);
        });
        DykeFarms x = new DykeFarms();
        winter(x);
        x.wipe();
        Due.is("dyke() of the empty text", x.dyke(), -3);
        Due.is("about(0) of the dyke before", x.about(0), 3);
        Due.is("undo() of its last act", x.undo(), 4);
        Due.is("again(0) of what was kept", x.again(0), 1);
    }

    private static void winter(DykeFarms x) {
        Due.write(x, WINTER);
        x.dyke();
        x.lend(0, 1);
        x.storm(5);
        x.keep(0);
        x.pull(2, 1);
        x.carry(1, 2);
        x.dam(1);
        x.seed(7);
    }

    private static void fault(String text, int due) {
        DykeFarms x = Due.text(text);
        Due.is("fault() of " + text, x.fault(), due);
        Due.is("about(6) of " + text, x.about(6), text.length());
        Due.is("dyke() of " + text, x.dyke(), due == -9 ? text.chars().filter(c -> c == 'F').count() : -3);
    }

    private static void firstByte() {
        Due.by("A DYKE is a TEXT: D, then PARTS");
        for (char letter = 0; letter <= 255; letter++) {
            fault("" + letter, letter == 'D' ? -9 : 0);
        }
        fault("F00000", 0);
    }

    private static void partsNoneOrMore() {
        Due.by("D, then PARTS, none or more");
        fault("D", -9);
        fault("DF00000", -9);
        fault(LONGEST, -9);
        for (char letter = 0; letter <= 255; letter++) {
            fault("D" + letter, letter == 'F' ? 2 : 1);
            fault("DF00000" + letter, letter == 'F' ? 8 : 7);
            fault("DF00000F00000" + letter, letter == 'F' || letter == 'I' ? 14 : 13);
        }
    }

    private static void eachFigure() {
        Due.by("h (0 .. 9), GRASS g (0 .. 3), c (0 .. 9), v (0 .. 9), k: 0 PLAIN, 1 MOLES, 2 ROOTS, 3 STONE");
        for (String ahead : new String[] {"D", "DF00000", FIVE}) {
            for (int i = 0; i < FIGURES.length(); i++) {
                for (char letter = 0; letter <= 255; letter++) {
                    String text = ahead + "F" + FIGURES.substring(0, i) + letter;
                    boolean taken = letter >= '0' && letter <= FIGURES.charAt(i);
                    int last = i == FIGURES.length() - 1 ? -9 : text.length();
                    fault(text, taken ? last : text.length() - 1);
                }
            }
        }
    }

    private static void figuresReadBack() {
        Due.by("its STRETCH is h high, has GRASS g, the FARM has c loads of CLAY, LAND worth v; k");
        int[] mosts = {9, 3, 9, 9, 3};
        for (int figures = 0; figures <= 99999; figures++) {
            String told = String.valueOf(100000 + figures).substring(1);
            boolean right = true;
            for (int i = 0; i < 5; i++) {
                right = right && told.charAt(i) - '0' <= mosts[i];
            }
            if (right) {
                DykeFarms x = Due.dyke("DF93993F" + told);
                for (int i = 0; i < 5; i++) {
                    Due.is("farm(1, " + i + ") of F" + told, x.farm(1, i), told.charAt(i) - '0');
                }
                Due.is("farm(0, 4) ahead of F" + told, x.farm(0, 4), 3);
            }
        }
    }

    private static void numberedAsTold() {
        Due.by("FARMS numbered as they are told");
        String[] parts = {"F11110", "F22221", "I0", "F33332", "F42443", "I2", "I1", "F53550", "F60661", "I4"};
        StringBuilder text = new StringBuilder("D");
        int farms = 0;
        int dams = 0;
        for (String part : parts) {
            text.append(part);
            farms += part.charAt(0) == 'F' ? 1 : 0;
            dams |= part.charAt(0) == 'I' ? 1 << part.charAt(1) - '0' : 0;
            DykeFarms x = Due.dyke(text.toString());
            Due.is("about(0) of " + text, x.about(0), farms);
            Due.is("about(1) of " + text, x.about(1), dams);
            for (int i = 0; i < farms; i++) {
                Due.is("farm(" + i + ", 0) of " + text, x.farm(i, 0), i + 1);
                Due.is("farm(" + i + ", 2) of " + text, x.farm(i, 2), i + 1);
                Due.is("farm(" + i + ", 3) of " + text, x.farm(i, 3), i + 1);
                Due.is("farm(" + i + ", 4) of " + text, x.farm(i, 4), i % 4);
                Due.is("farm(" + i + ", 5) of " + text, x.farm(i, 5), i);
            }
            Due.is("farm(" + farms + ", 0) of " + text, x.farm(farms, 0), -1);
        }
    }

    private static void sixFarmsAtMost() {
        Due.by("are 0, 1, .. along the sea (6 at most).");
        fault(SIX, -9);
        fault(SIX + "F", 37);
        fault(SIX + "F00000", 37);
        fault(SIX + "I0F", 39);
        DykeFarms x = Due.dyke(SIX);
        Due.is("about(0)", x.about(0), 6);
        Due.is("farm(5, 0)", x.farm(5, 0), 9);
        Due.is("farm(6, 0)", x.farm(6, 0), -1);
    }

    private static void damsBothToldAhead() {
        Due.by("Ii a DAM between the LANDS of FARM i and of the next one (both told ahead)");
        for (int farms = 0; farms <= 6; farms++) {
            String ahead = SIX.substring(0, 1 + 6 * farms);
            fault(ahead + "I", farms < 2 ? ahead.length() : ahead.length() + 1);
            for (char letter = 0; letter <= 255; letter++) {
                boolean taken = letter >= '0' && letter - '0' <= farms - 2;
                fault(ahead + "I" + letter, taken ? -9 : farms < 2 ? ahead.length() : ahead.length() + 1);
            }
        }
        fault("DF00000I0F00000", 7);
        fault("DF00000F00000I0F00000I1F00000I2", -9);
        fault("DF00000F00000I1F00000", 14);
    }

    private static void damsNoneThereSoFar() {
        Due.by("Ii a DAM (none there so far)");
        for (char one = '0'; one <= '4'; one++) {
            for (char two = '0'; two <= '4'; two++) {
                fault(SIX + "I" + one + "I" + two, one == two ? 40 : -9);
            }
        }
        fault("DF00000F00000I0I", 15);
        fault("DF00000F00000I0I0", 15);
        fault("DF00000F00000F00000I0I", 22);
        fault("DF00000F00000F00000I0I0", 22);
        fault("DF00000F00000F00000I0I1I", 23);
        fault("DF00000F00000I0F00000I0", 22);
        fault("DF00000F00000I0F00000I1", -9);
        Due.is("about(1) of all five", Due.dyke(LONGEST).about(1), 31);
        Due.is("about(1) of the first", Due.dyke(SIX + "I0").about(1), 1);
        Due.is("about(1) of the last", Due.dyke(SIX + "I4").about(1), 16);
    }

    private static void onlyNotAtItsEnd() {
        Due.by("FAULT: its length, if it is only not at its end; NONE: none");
        for (int length = 0; length <= LONGEST.length(); length++) {
            boolean whole = length > 0 && (length <= 37 ? length % 6 == 1 : length % 2 == 1);
            fault(LONGEST.substring(0, length), whole ? -9 : length);
        }
    }

    private static void lengthSetAside() {
        Due.by("by which THE TEXT can be no DYKE, whatever came behind it (its length set aside)");
        for (char letter = 0; letter <= 255; letter++) {
            fault(LONGEST + letter, 47);
        }
        StringBuilder full = new StringBuilder();
        while (full.length() < 48) {
            full.append('D');
        }
        fault(full.toString(), 1);
        fault(SIX + "I0I1I2I3III", 46);
    }

    private static void firstOfSeveralFaults() {
        Due.by("FAULT: the place (from 0) of the first byte by which THE TEXT can be no DYKE");
        fault("XX", 0);
        fault("DXX", 1);
        fault("DF0400X", 3);
        fault("DF00000I0X", 7);
        fault("DF00000F00000I1X", 14);
        fault("DF00000 F00000", 7);
    }

    /** Each text of five bytes or fewer out of a few, and each that differs from a dyke by a byte. */
    private static void faultsOfAnyTexts() {
        Due.by("FAULT: the place (from 0) of the first byte by which THE TEXT can be no DYKE, whatever came behind it");
        String few = "DFI04";
        for (int number = 0; number < 6 * 6 * 6 * 6 * 6; number++) {
            StringBuilder text = new StringBuilder();
            for (int left = number; left > 0; left /= 6) {
                text.append(left % 6 == 0 ? "" : few.substring(left % 6 - 1, left % 6));
            }
            asTheModel(text.toString());
        }
        for (String dyke : new String[] {LONGEST, "DF00000F93993I0F00000I1F93993F00000I3I2F93993I4"}) {
            for (int place = 0; place < dyke.length(); place++) {
                for (char letter : "0123456789DFI/: dfi".toCharArray()) {
                    asTheModel(dyke.substring(0, place) + letter + dyke.substring(place + 1));
                    asTheModel(dyke.substring(0, place) + letter + dyke.substring(place));
                }
                asTheModel(dyke.substring(0, place) + dyke.substring(place + 1));
            }
        }
    }

    /** The model finds the fault by trying out what could come behind. */
    private static void asTheModel(String text) {
        Model model = new Model();
        for (char letter : text.toCharArray()) {
            model.write(letter);
        }
        fault(text, model.fault());
    }

    private static void madeAnew() {
        DykeFarms x = Due.text("DF50910F20020I0");
        for (int time = 1; time <= 2; time++) {
            Due.by("each FARM keeps its STRETCH, nobody owes anything, no SPADE is stuck in, THE TIDE is 0");
            Due.is("dyke() for the time " + time, x.dyke(), 2);
            Due.is("farm(0, 5)", x.farm(0, 5), 0);
            Due.is("farm(1, 5)", x.farm(1, 5), 1);
            Due.is("owes(1, 0)", x.owes(1, 0), 0);
            Due.is("about(2)", x.about(2), 0);
            Due.is("about(3)", x.about(3), 0);
            Due.by("THE TEXT is THE DYKE (THE TEXT itself stays; no ACTS; what was kept is gone)");
            Due.is("about(6)", x.about(6), 15);
            Due.is("about(5)", x.about(5), 0);
            Due.is("undo()", x.undo(), -3);
            Due.is("again(0)", x.again(0), -3);
            Due.is("again(1)", x.again(1), -3);
            Due.is("about(4)", x.about(4), 9);
            Due.is("about(1)", x.about(1), 1);
            Due.is("farm(0, 0)", x.farm(0, 0), 5);
            x.lend(0, 1);
            x.carry(0, 1);
            x.storm(9);
            x.pull(0, 1);
            x.pull(1, 0);
            x.stick(1);
            x.dam(0);
            x.keep(0);
            x.keep(1);
        }
    }

    private static void madeOfOtherFarms() {
        Due.by("THE TEXT is THE DYKE: how many FARMS");
        DykeFarms x = Due.dyke("DF50910F20020I0");
        x.storm(20);
        x.wipe();
        x.write('D');
        Due.is("dyke() of no farms", x.dyke(), 0);
        Due.is("about(1) of no farms", x.about(1), 0);
        Due.is("about(2) of no farms", x.about(2), 0);
        Due.is("about(4) of no farms", x.about(4), 0);
        Due.is("breaks(20) of no farms", x.breaks(20), 0);
        Due.write(x, SIX.substring(1));
        Due.is("dyke() of six", x.dyke(), 6);
        Due.is("farm(5, 5) of six", x.farm(5, 5), 5);
    }

    private static void seedStays() {
        Due.by("dyke: THE SEED stays");
        DykeFarms x = Due.text("D");
        x.seed(Long.MIN_VALUE);
        x.dyke();
        Due.is("seed(0)", x.seed(0), Long.MIN_VALUE);
    }

    private static void aboutEach() {
        Due.by("FARMS (0), DAMS (1), SPADES (2), THE TIDE (3), CLAY of all (4), ACTS (5), bytes of THE TEXT (6)");
        DykeFarms x = Due.dyke("DF90900F90900F90900F90900F90900F90900");
        x.stick(0);
        x.stick(5);
        x.dam(4);
        x.storm(0);
        x.storm(0);
        x.write('I');
        int[] due = {6, 16, 33, 2, 54, 5, 38};
        for (int what = 0; what < due.length; what++) {
            Due.is("about(" + what + ")", x.about(what), due[what]);
        }
        for (int i = 0; i < 6; i++) {
            x.stick(i);
            x.dam(i);
        }
        Due.is("about(2) when all are stuck in", x.about(2), 63);
        Due.is("about(1) when all but one are dammed", x.about(1), 15);
        x.carry(0, 0);
        Due.is("about(4) when one is carried", x.about(4), 53);
        x.lend(0, 1);
        Due.is("about(4) when one is lent", x.about(4), 53);
    }

    private static void farmEach() {
        Due.by("how high its STRETCH is (what = 0), GRASS (1), its CLAY (2), its LAND's worth (3), k (4), "
                + "who keeps the STRETCH (5), STRENGTH (6)");
        DykeFarms x = Due.dyke("DF00000F93993");
        int[] least = {0, 0, 0, 0, 0, 0, 0};
        int[] greatest = {9, 3, 9, 9, 3, 1, 14};
        for (int what = 0; what <= 6; what++) {
            Due.is("farm(0, " + what + ")", x.farm(0, what), least[what]);
            Due.is("farm(1, " + what + ")", x.farm(1, what), greatest[what]);
        }
    }

    private static void strengths() {
        Due.by("STRENGTH: its height and GRASS (MOLES: GRASS does not count; ROOTS: GRASS counts twice; "
                + "STONE: 2 more)");
        int[][] due = {{0, 3, 4, 7, 9, 12}, {0, 0, 4, 4, 9, 9}, {0, 6, 4, 10, 9, 15}, {2, 5, 6, 9, 11, 14}};
        String[] heights = {"0", "4", "9"};
        for (int kind = 0; kind <= 3; kind++) {
            for (int i = 0; i < 6; i++) {
                String text = "DF" + heights[i / 2] + (i % 2 * 3) + "00" + kind;
                DykeFarms x = Due.dyke(text);
                Due.is("farm(0, 6) of " + text, x.farm(0, 6), due[kind][i]);
                Due.is("breaks() of just that by " + text, x.breaks(due[kind][i]), 0);
                Due.is("breaks() of one more by " + text, x.breaks(due[kind][i] + 1), 1);
            }
        }
        DykeFarms highest = Due.dyke("DF93902");
        for (int i = 0; i < 6; i++) {
            highest.carry(0, 0);
        }
        Due.is("farm(0, 6) of ROOTS 15 high", highest.farm(0, 6), 21);
        Due.is("breaks(20) of it", highest.breaks(20), 0);
    }

    private static void owesAtFirst() {
        Due.by("What a FARM owes another one.");
        DykeFarms x = Due.dyke("DF00900F00900F00900F00900F00900F00900");
        for (int i = 0; i < 36; i++) {
            Due.is("owes(" + i / 6 + ", " + i % 6 + ")", x.owes(i / 6, i % 6), 0);
        }
        x.lend(0, 5);
        x.lend(5, 0);
        x.lend(5, 0);
        Due.is("owes(5, 0)", x.owes(5, 0), 1);
        Due.is("owes(0, 5)", x.owes(0, 5), 2);
        Due.is("owes(4, 0)", x.owes(4, 0), 0);
    }
}
