/** Counts answers that are not as due; each test ends by calling end(). */
final class Due {
    private static int right;
    private static int wrong;
    private static String sentence = "";

    private Due() {
    }

    /** The sentence of the document by which the answers from here on are due; what stands in [ ] is not its own. */
    static void by(String told) {
        sentence = "\"" + told + "\": ";
    }

    static void is(String call, long got, long due) {
        if (got == due) {
            right++;
            return;
        }
        wrong++;
        System.out.println(sentence + call + " answered " + got + ", due is " + due);
    }

    static void holds(String what, boolean held) {
        is(what, held ? 1 : 0, 1);
    }

    static DykeFarms text(String text) {
        DykeFarms x = new DykeFarms();
        write(x, text);
        return x;
    }

    static void write(DykeFarms x, String text) {
        for (int i = 0; i < text.length(); i++) {
            x.write(text.charAt(i));
        }
    }

    /** A new object whose dyke is the text. */
    static DykeFarms dyke(String text) {
        DykeFarms x = text(text);
        is("dyke() of " + text, x.dyke(), text.chars().filter(c -> c == 'F').count());
        return x;
    }

    static void end() {
        System.out.println(right + " answers as due, " + wrong + " not");
        if (wrong != 0 || right == 0) {
            System.exit(1);
        }
    }
}
