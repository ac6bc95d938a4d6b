import java.util.Random;

/** Promises 1 to 32: runs of calls by chance (always the same ones), held against the model. */
public final class ModelTest {
    private static final int RUNS = 3000;
    private static final int CALLS = 400;
    private static final int[] WILD = {Integer.MIN_VALUE, -100, -3, -2, -1, 6, 7, 21, 22, 61, 64, 255, 256,
        Integer.MAX_VALUE};

    private final Random chance;
    private final DykeFarms x = new DykeFarms();
    private final Model model = new Model();
    private final String run;

    private ModelTest(int number) {
        chance = new Random(number);
        run = "run " + number + ": ";
    }

    public static void main(String[] args) {
        for (int i = 0; i < RUNS; i++) {
            new ModelTest(i).go();
        }
        Due.end();
    }

    private void go() {
        int done = tell();
        while (done < CALLS) {
            int kind = chance.nextInt(100);
            if (kind < 2) {
                done += tell();
            } else {
                call(kind);
                done++;
            }
        }
    }

    private void is(String call, long got, long due) {
        Due.is(run + call, got, due);
    }

    private int upTo(int most) {
        if (chance.nextInt(60) == 0) {
            return WILD[chance.nextInt(WILD.length)];
        }
        return chance.nextInt(most + 1);
    }

    private int farm() {
        int farms = x.about(0);
        return chance.nextInt(40) == 0 ? farms : upTo(Math.max(farms - 1, 0));
    }

    private boolean either() {
        return chance.nextBoolean();
    }

    /** A text, most often a dyke, and the dyke by it: how many calls it took. */
    private int tell() {
        is("wipe()", x.wipe(), model.wipe());
        StringBuilder text = new StringBuilder("D");
        int farms = chance.nextInt(8) == 0 ? chance.nextInt(8) : 2 + chance.nextInt(5);
        int dams = 0;
        for (int i = 0; i < farms; i++) {
            text.append('F').append(chance.nextInt(10)).append(chance.nextInt(4)).append(chance.nextInt(10))
                    .append(chance.nextInt(10)).append(chance.nextInt(4));
            while (i > 0 && chance.nextInt(4) == 0) {
                int dam = chance.nextInt(chance.nextInt(8) == 0 ? 6 : i);
                if ((dams >> dam & 1) == 0 || chance.nextInt(5) == 0) {
                    text.append('I').append(dam);
                }
                dams |= 1 << dam;
            }
        }
        if (chance.nextInt(5) == 0) {
            spoil(text);
        }
        for (int i = 0; i < text.length(); i++) {
            is("write()", x.write(text.charAt(i)), model.write(text.charAt(i)));
            if (chance.nextInt(30) == 0) {
                is("fault()", x.fault(), model.fault());
            }
        }
        is("fault() of " + text, x.fault(), model.fault());
        is("dyke() of " + text, x.dyke(), model.dyke());
        return text.length() + 3;
    }

    private void spoil(StringBuilder text) {
        int place = chance.nextInt(text.length());
        switch (chance.nextInt(4)) {
            case 0 -> text.setLength(place);
            case 1 -> text.deleteCharAt(place);
            case 2 -> text.setCharAt(place, "DFI0123456789/:x\u00ff\u0000".charAt(chance.nextInt(18)));
            default -> text.insert(place, "DFI0123456789/:x\u00ff\u0000".charAt(chance.nextInt(18)));
        }
    }

    private void call(int kind) {
        if (kind < 45) {
            act(chance.nextInt(16));
        } else if (kind < 55) {
            look();
        } else if (kind < 75) {
            storms(chance.nextInt(8));
        } else if (kind < 83) {
            owed(chance.nextInt(3));
        } else if (kind < 95) {
            chances(chance.nextInt(5));
        } else {
            slots();
        }
    }

    private void act(int which) {
        int one = farm();
        int two = farm();
        if (which < 2) {
            int storm = upTo(20);
            is("storm(" + storm + ")", x.storm(storm), model.storm(storm));
        } else if (which < 6) {
            is("carry(" + one + ", " + two + ")", x.carry(one, two), model.carry(one, two));
        } else if (which < 9) {
            is("lend(" + one + ", " + two + ")", x.lend(one, two), model.lend(one, two));
        } else if (which < 11) {
            is("stick(" + one + ")", x.stick(one), model.stick(one));
        } else if (which < 13) {
            is("pull(" + one + ", " + two + ")", x.pull(one, two), model.pull(one, two));
        } else if (which < 14) {
            is("dam(" + one + ")", x.dam(one), model.dam(one));
        } else if (which < 15) {
            is("undo()", x.undo(), model.undo());
        } else {
            wholeState();
        }
    }

    private void wholeState() {
        for (int what = 0; what <= 6; what++) {
            is("about(" + what + ")", x.about(what), model.about(what));
            for (int i = 0; i < x.about(0); i++) {
                is("farm(" + i + ", " + what + ")", x.farm(i, what), model.farm(i, what));
            }
        }
    }

    private void look() {
        int one = farm();
        int two = farm();
        int what = upTo(6);
        is("farm(" + one + ", " + what + ")", x.farm(one, what), model.farm(one, what));
        is("owes(" + one + ", " + two + ")", x.owes(one, two), model.owes(one, two));
        is("about(" + what + ")", x.about(what), model.about(what));
        if (chance.nextInt(8) == 0) {
            int letter = upTo(255);
            is("write(" + letter + ")", x.write(letter), model.write(letter));
        }
    }

    private void storms(int which) {
        int storm = upTo(20);
        int what = upTo(2);
        int stretch = farm();
        switch (which) {
            case 0 -> is("breaks(" + storm + ")", x.breaks(storm), model.breaks(storm));
            case 1 -> is("drowns(" + storm + ")", x.drowns(storm), model.drowns(storm));
            case 2 -> is("loss(" + storm + ")", x.loss(storm), model.loss(storm));
            case 3 -> is("needs(" + storm + ")", x.needs(storm), model.needs(storm));
            case 4 -> {
                int n = either() ? upTo(60) : upTo(12);
                is("placing(" + n + ", " + storm + ", " + what + ")", x.placing(n, storm, what),
                        model.placing(n, storm, what));
            }
            case 5 -> is("all()", x.all(), model.all());
            case 6 -> {
                int n = chance.nextInt(30) == 0 ? upTo(7) : 1 + chance.nextInt(5);
                long told = toldStorms(n);
                is("told(" + stretch + ", " + n + ", " + told + ", " + what + ")",
                        x.told(stretch, n, told, what), model.told(stretch, n, told, what));
            }
            default -> {
                int lands = upTo((1 << x.about(0)) - 1);
                is("wet(" + lands + ", " + what + ")", x.wet(lands, what), model.wet(lands, what));
            }
        }
    }

    private long toldStorms(int n) {
        if (chance.nextInt(20) == 0) {
            return either() ? chance.nextLong() : chance.nextLong() >>> 30;
        }
        long storms = 0;
        for (int i = 0; i < n && i < 9; i++) {
            storms = storms * 100 + chance.nextInt(chance.nextInt(20) == 0 ? 23 : 18);
        }
        return storms;
    }

    private void owed(int which) {
        int one = farm();
        int storm = upTo(20);
        boolean upper = either();
        switch (which) {
            case 0 -> is("net(" + one + ")", x.net(one), model.net(one));
            case 1 -> is("payings()", x.payings(), model.payings());
            default -> is("share(" + one + ", " + storm + ", " + upper + ")", x.share(one, storm, upper),
                    model.share(one, storm, upper));
        }
    }

    private void chances(int which) {
        int one = farm();
        int two = farm();
        int stretch = farm();
        int storm = upTo(20);
        switch (which) {
            case 0, 1 -> {
                int what = upTo(1);
                is("rests(" + one + ", " + two + ", " + stretch + ", " + storm + ", " + what + ")",
                        x.rests(one, two, stretch, storm, what), model.rests(one, two, stretch, storm, what));
            }
            case 2 -> {
                int high = either() ? upTo(20) : x.farm(stretch, 6);
                int low = either() ? upTo(20) : high - 1;
                int tenths = upTo(10);
                boolean upper = either();
                is("threes(" + stretch + ", " + high + ", " + low + ", " + tenths + ", " + upper + ")",
                        x.threes(stretch, high, low, tenths, upper),
                        model.threes(stretch, high, low, tenths, upper));
            }
            case 3 -> {
                long seed = chance.nextLong();
                is("seed(" + seed + ")", x.seed(seed), model.seed(seed));
            }
            default -> {
                int m = upTo(20);
                is("winters(" + m + ")", x.winters(m), model.winters(m));
            }
        }
    }

    private void slots() {
        int slot = upTo(1);
        if (either()) {
            is("keep(" + slot + ")", x.keep(slot), model.keep(slot));
        } else {
            is("again(" + slot + ")", x.again(slot), model.again(slot));
        }
    }
}
