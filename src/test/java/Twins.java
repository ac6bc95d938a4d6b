import java.util.ArrayList;
import java.util.List;

/** All that can be asked of an object, so that one that has had calls more can be held against one that has not. */
final class Twins {
    /** Calls on an object, always the same ones. */
    interface Story {
        void tell(DykeFarms x);
    }

    private Twins() {
    }

    /** Whether calls behind a story change nothing at all. */
    static void same(String calls, Story story, Story more) {
        List<String> due = everything(story);
        List<String> got = everything(x -> {
            story.tell(x);
            more.tell(x);
        });
        String first = "";
        for (int i = 0; i < due.size() && first.isEmpty(); i++) {
            first = got.get(i).equals(due.get(i)) ? "" : ": " + got.get(i) + ", before " + due.get(i);
        }
        Due.holds(calls + " changes nothing" + first, got.equals(due));
    }

    /** Each depth of acts, each slot and the text have an object of their own: none has more than 512 calls. */
    private static List<String> everything(Story story) {
        List<String> seen = new ArrayList<>();
        for (int undone = 0; undone <= 14; undone++) {
            DykeFarms x = told(story);
            for (int i = 0; i < undone; i++) {
                seen.add("undo() = " + x.undo());
            }
            look(x, seen);
        }
        for (int slot = 0; slot < 2; slot++) {
            DykeFarms x = told(story);
            seen.add("again(" + slot + ") = " + x.again(slot));
            look(x, seen);
        }
        DykeFarms x = told(story);
        seen.add("dyke() = " + x.dyke());
        look(x, seen);
        seen.add("wipe() = " + x.wipe());
        return seen;
    }

    private static DykeFarms told(Story story) {
        DykeFarms x = new DykeFarms();
        story.tell(x);
        return x;
    }

    private static void look(DykeFarms x, List<String> seen) {
        seen.add("fault() = " + x.fault());
        for (int what = 0; what <= 6; what++) {
            seen.add("about(" + what + ") = " + x.about(what));
        }
        for (int farm = 0; farm < x.about(0); farm++) {
            for (int what = 0; what <= 6; what++) {
                seen.add("farm(" + farm + ", " + what + ") = " + x.farm(farm, what));
            }
            for (int other = 0; other < x.about(0); other++) {
                seen.add("owes(" + farm + ", " + other + ") = " + x.owes(farm, other));
            }
        }
        seen.add("seed(0) = " + x.seed(0));
    }
}
