import java.util.ArrayList;
import java.util.List;
import java.util.function.Consumer;
import java.util.function.ToLongFunction;

/** Two objects with one past: one gets a call more, and from then on both must answer all alike. */
final class Twins {
    private final Check check;
    private final String name;
    private final Consumer<LychWeights> past;

    /** The past may be some 90 calls if ten can be UNDONE behind it, some 200 if five can (all is 512 at most). */
    Twins(Check check, String name, Consumer<LychWeights> past) {
        this.check = check;
        this.name = name;
        this.past = past;
    }

    void changesNothing(String call, long want, ToLongFunction<LychWeights> ask) {
        LychWeights called = new LychWeights();
        LychWeights other = new LychWeights();
        past.accept(called);
        past.accept(other);
        check.due(name + ": " + call, want, ask.applyAsLong(called));
        List<String> due = whole(other);
        List<String> got = whole(called);
        String changed = "";
        for (int i = 0; i < Math.min(due.size(), got.size()) && changed.isEmpty(); i++) {
            if (!due.get(i).equals(got.get(i))) {
                changed = got.get(i) + ", without that call " + due.get(i);
            }
        }
        boolean same = due.equals(got);
        check.due(name + ": " + call + " changes nothing" + (same ? "" : " (then " + changed + ")"), 1, same ? 1 : 0);
    }

    /** All that can be asked, then all that can be UNDONE, both IMAGES, and what THE TEXT tells. */
    private static List<String> whole(LychWeights x) {
        List<String> all = new ArrayList<>();
        for (int what = 0; what < 7; what++) {
            all.add("count(" + what + ") = " + x.count(what));
            all.add("order(" + (what - 1) + ") = " + x.order(what - 1));
        }
        for (int i = 0; i < 6; i++) {
            all.add("bearer(" + i + ") = " + x.bearer(i));
            all.add("deed(" + i + ", 0) = " + x.deed(i, 0));
            all.add("deed(" + i + ", 1) = " + x.deed(i, 1));
            for (int what : new int[] {0, 3, 4, 6, 7}) {
                all.add("dead(" + i + ", " + what + ") = " + x.dead(i, what));
            }
        }
        for (int what = 0; what < 3; what++) {
            all.add("can(" + what + ") = " + x.can(what));
        }
        all.add("trace() = " + x.trace());
        addScene(all, x);
        addFormerScenes(all, x);
        all.add("gate() = " + x.gate());
        for (int what = 0; what < 4; what++) {
            all.add("count(" + what + ") behind gate() = " + x.count(what));
        }
        return all;
    }

    private static void addFormerScenes(List<String> all, LychWeights x) {
        long more = 1;
        for (int i = 0; i < 11 && more >= 0; i++) {
            more = x.undo();
            all.add("undo() = " + more);
            if (more >= 0) {
                addScene(all, x);
            }
        }
        for (int image = 0; image < 2; image++) {
            all.add("back(" + image + ") = " + x.back(image));
            addScene(all, x);
        }
    }

    private static void addScene(List<String> all, LychWeights x) {
        all.add(scene(x));
    }

    /** NOW, as IMAGES keep it; 23 calls. */
    static String scene(LychWeights x) {
        StringBuilder s = new StringBuilder("NOW");
        for (int what = 0; what < 5; what++) {
            s.append(' ').append(x.now(what));
        }
        for (int l = 0; l < 6; l++) {
            s.append(" /");
            for (int what : new int[] {1, 2, 5}) {
                s.append(' ').append(x.dead(l, what));
            }
        }
        return s.toString();
    }
}
