import java.util.function.Consumer;
import java.util.function.ToLongFunction;

/** "Refused, and nothing changes, the first of these: BAD .., STATE .., FULL": each call, on either side of each number. */
public final class RefusedTest {
    private static final int BAD = LychWeights.BAD;
    private static final int STATE = LychWeights.STATE;
    private static final int FULL = LychWeights.FULL;
    private static final int NONE = LychWeights.NONE;
    private static final int NO = LychWeights.NO;
    private static final Check check = new Check();

    private final Twins twins;
    private final int deeds;
    private final int dead;
    private final int bearers;

    private RefusedTest(String name, int deeds, int dead, int bearers, Consumer<LychWeights> past) {
        twins = new Twins(check, name, past);
        this.deeds = deeds;
        this.dead = dead;
        this.bearers = bearers;
    }

    public static void main(String[] args) {
        new RefusedTest("a new object", 0, 0, 0, x -> { }).runAll();
        new RefusedTest("a scene", 3, 3, 4, RefusedTest::rich).runAll();
        new RefusedTest("a full scene", 6, 6, 6, RefusedTest::full).runAll();
        new RefusedTest("a full TEXT", 0, 0, 0, RefusedTest::fullOfLetters).runAll();
        states();
        statesOfAFullScene();
        fulls();
        check.end();
    }

    /** 68 calls, 6 of which can be UNDONE; THE NEEDLE at 1, THUMB -2, RUST 3, one CHALKED, half an ITEM in THE TEXT. */
    static void rich(LychWeights x) {
        Check.type(x, "d30;d15;d20;l12 3 0;l7 0 1;l30 9;b10;b20;b30;b40;p70;r4;");
        x.gate();
        x.thumbs(3);
        x.lays(1);
        x.keep(1);
        x.adorns(0, 5);
        x.sins(2, 0);
        x.thumbs(-2);
        x.oils(3);
        x.tells(20, 12);
        x.tells(10, 2);
        x.rate(4, 1);
        Check.type(x, "d2");
    }

    /** 99 calls, 3 of which can be UNDONE. */
    static void full(LychWeights x) {
        Check.type(x, "d21;d22;d24;d28;d36;d0;" + "l9 0 0;".repeat(5) + "l9 0;" + "b1;".repeat(6) + "r9;");
        x.gate();
        for (int n = 0; n < 6; n++) {
            x.tells(10, n);
        }
        x.lays(0);
        x.lays(5);
        x.adorns(1, 9);
        x.keep(0);
    }

    private static void fullOfLetters(LychWeights x) {
        Check.type(x, " ".repeat(147) + "r1;");
    }

    private static int[] beyond(int low, int high) {
        return new int[] {low - 1, high + 1, low - 32, high + 32, Integer.MIN_VALUE, Integer.MAX_VALUE};
    }

    private void refused(String call, long due, ToLongFunction<LychWeights> ask) {
        twins.changesNothing(call, due, ask);
    }

    private void runAll() {
        letters();
        whatIsAsked();
        numbers();
        ofTheDead();
        ofTheDeeds();
        twoAtOnce();
        images();
    }

    private void letters() {
        check.promise(2, "type: BAD");
        for (int n : beyond(0, 255)) {
            refused("type(" + n + ")", BAD, x -> x.type(n));
        }
    }

    private void whatIsAsked() {
        check.promise(5, "deed: NO");
        for (int n : beyond(0, 1)) {
            refused("deed(0, " + n + ")", NO, x -> x.deed(0, n));
        }
        check.promise(6, "dead: NO");
        for (int n : beyond(0, 7)) {
            refused("dead(0, " + n + ")", NO, x -> x.dead(0, n));
        }
        check.promise(8, "now: NO");
        for (int n : beyond(0, 4)) {
            refused("now(" + n + ")", NO, x -> x.now(n));
        }
        check.promise(16, "order: BAD");
        for (int n : beyond(-1, 5)) {
            refused("order(" + n + ")", BAD, x -> x.order(n));
        }
        check.promise(19, "can: BAD");
        for (int n : beyond(0, 2)) {
            refused("can(" + n + ")", BAD, x -> x.can(n));
        }
        check.promise(22, "carry: BAD");
        for (int n : beyond(0, 2)) {
            refused("carry(1, " + n + ")", BAD, x -> x.carry(1, n));
        }
        check.promise(23, "odds: BAD");
        for (int n : beyond(0, 1)) {
            refused("odds(0, 0, " + n + ")", BAD, x -> x.odds(0, 0, n));
        }
        check.promise(24, "rate: NO");
        for (int n : beyond(0, 5)) {
            refused("rate(" + n + ", 0)", NO, x -> x.rate(n, 0));
        }
        check.promise(27, "count: BAD");
        for (int n : beyond(0, 6)) {
            refused("count(" + n + ")", BAD, x -> x.count(n));
        }
    }

    private void numbers() {
        check.promise(10, "thumbs: NO");
        for (int n : beyond(-9, 9)) {
            refused("thumbs(" + n + ")", NO, x -> x.thumbs(n));
        }
        check.promise(11, "adorns: BAD");
        for (int n : beyond(0, 9)) {
            refused("adorns(0, " + n + ")", BAD, x -> x.adorns(0, n));
        }
        check.promise(13, "oils: BAD");
        for (int n : beyond(0, 9)) {
            refused("oils(" + n + ")", BAD, x -> x.oils(n));
        }
        check.promise(17, "tells: BAD");
        for (int n : beyond(1, 40)) {
            refused("tells(" + n + ", 0)", BAD, x -> x.tells(n, 0));
        }
        for (int n : beyond(0, 99)) {
            refused("tells(1, " + n + ")", BAD, x -> x.tells(1, n));
        }
        check.promise(21, "life: BAD");
        for (int n : beyond(-99, 99)) {
            refused("life(0, " + n + ")", BAD, x -> x.life(0, n));
        }
        check.promise(22, "carry: BAD");
        for (int n : beyond(1, 240)) {
            refused("carry(" + n + ", 0)", BAD, x -> x.carry(n, 0));
        }
        check.promise(23, "odds: BAD");
        for (int n : beyond(0, 10)) {
            refused("odds(" + n + ", 0, 0)", BAD, x -> x.odds(n, 0, 0));
        }
        for (int n : beyond(0, 6)) {
            refused("odds(0, " + n + ", 0)", BAD, x -> x.odds(0, n, 0));
        }
    }

    private void ofTheDead() {
        for (int l : beyond(0, dead - 1)) {
            check.promise(6, "dead: NO");
            refused("dead(" + l + ", 4)", NO, x -> x.dead(l, 4));
            check.promise(9, "lays: BAD");
            refused("lays(" + l + ")", BAD, x -> x.lays(l));
            check.promise(11, "adorns: BAD");
            refused("adorns(" + l + ", 1)", BAD, x -> x.adorns(l, 1));
            check.promise(12, "sins: BAD");
            refused("sins(" + l + ", 0)", BAD, x -> x.sins(l, 0));
            check.promise(21, "life: BAD");
            refused("life(" + l + ", 99)", BAD, x -> x.life(l, 99));
        }
    }

    private void ofTheDeeds() {
        for (int d : beyond(0, deeds - 1)) {
            check.promise(5, "deed: NO");
            refused("deed(" + d + ", 0)", NO, x -> x.deed(d, 0));
            refused("deed(" + d + ", 1)", NO, x -> x.deed(d, 1));
            check.promise(12, "sins: BAD, be he CHALKED, or not");
            for (int l = 0; l < Math.max(1, dead); l++) {
                int one = l;
                refused("sins(" + l + ", " + d + ")", BAD, x -> x.sins(one, d));
            }
            check.promise(24, "rate: NO");
            for (int kind = 0; kind < 6; kind++) {
                int one = kind;
                refused("rate(" + kind + ", " + d + ")", NO, x -> x.rate(one, d));
            }
        }
        check.promise(7, "bearer: BAD");
        for (int b : beyond(0, bearers - 1)) {
            refused("bearer(" + b + ")", BAD, x -> x.bearer(b));
        }
    }

    private void twoAtOnce() {
        check.promise(5, "deed: NO, both numbers wrong");
        refused("deed(6, 2)", NO, x -> x.deed(6, 2));
        check.promise(6, "dead: NO, both numbers wrong");
        refused("dead(6, 8)", NO, x -> x.dead(6, 8));
        check.promise(11, "adorns: BAD, both numbers wrong");
        refused("adorns(-1, 10)", BAD, x -> x.adorns(-1, 10));
        check.promise(12, "sins: BAD, both numbers wrong");
        refused("sins(6, 6)", BAD, x -> x.sins(6, 6));
        check.promise(17, "tells: BAD, both numbers wrong");
        refused("tells(0, 100)", BAD, x -> x.tells(0, 100));
        check.promise(21, "life: BAD, both numbers wrong");
        refused("life(6, 100)", BAD, x -> x.life(6, 100));
        check.promise(22, "carry: BAD, both numbers wrong");
        refused("carry(0, 3)", BAD, x -> x.carry(0, 3));
        check.promise(23, "odds: BAD, all numbers wrong");
        refused("odds(11, 7, 2)", BAD, x -> x.odds(11, 7, 2));
        check.promise(24, "rate: NO, both numbers wrong");
        refused("rate(6, 6)", NO, x -> x.rate(6, 6));
    }

    private void images() {
        for (int n : beyond(0, 1)) {
            check.promise(25, "keep: BAD");
            refused("keep(" + n + ")", BAD, x -> x.keep(n));
            check.promise(26, "back: BAD");
            refused("back(" + n + ")", BAD, x -> x.back(n));
        }
    }

    private static void states() {
        Twins none = new Twins(check, "a new object", x -> { });
        check.promise(15, "undo: STATE");
        none.changesNothing("undo()", STATE, LychWeights::undo);
        check.promise(26, "back: STATE");
        none.changesNothing("back(0)", STATE, x -> x.back(0));
        none.changesNothing("back(1)", STATE, x -> x.back(1));
        Twins scene = new Twins(check, "a scene", RefusedTest::rich);
        scene.changesNothing("back(0)", STATE, x -> x.back(0));
        check.promise(4, "gate: a FAULT");
        scene.changesNothing("gate()", -12, LychWeights::gate);
        check.promise(9, "lays: STATE");
        scene.changesNothing("lays(1)", STATE, x -> x.lays(1));
        check.promise(12, "sins: STATE");
        scene.changesNothing("sins(1, 0): he is CHALKED", STATE, x -> x.sins(1, 0));
        scene.changesNothing("sins(1, 1): he is CHALKED, and did it", STATE, x -> x.sins(1, 1));
        scene.changesNothing("sins(0, 0): he did it", STATE, x -> x.sins(0, 0));
        scene.changesNothing("sins(2, 0): he did it", STATE, x -> x.sins(2, 0));
        check.promise(6, "dead: NO, he is not CHALKED");
        scene.changesNothing("dead(0, 7)", NO, x -> x.dead(0, 7));
        check.promise(3, "clear: nothing but THE TEXT");
        new Twins(check, "no TEXT", x -> {
            rich(x);
            x.clear();
        }).changesNothing("clear()", 0, LychWeights::clear);
    }

    private static void statesOfAFullScene() {
        Twins full = new Twins(check, "a full scene", RefusedTest::full);
        check.promise(9, "lays: STATE");
        full.changesNothing("lays(0)", STATE, x -> x.lays(0));
        full.changesNothing("lays(5)", STATE, x -> x.lays(5));
        check.promise(12, "sins: STATE");
        full.changesNothing("sins(4, 0)", STATE, x -> x.sins(4, 0));
        full.changesNothing("sins(5, 5)", STATE, x -> x.sins(5, 5));
        check.promise(14, "year: STATE");
        full.changesNothing("year()", STATE, LychWeights::year);
        check.promise(18, "forget: nothing was TOLD");
        new Twins(check, "nothing TOLD", x -> {
            full(x);
            x.forget();
        }).changesNothing("forget()", 0, LychWeights::forget);
        check.promise(15, "undo: STATE, ten were UNDONE");
        new Twins(check, "ten UNDONE", x -> {
            for (int n = 0; n < 13; n++) {
                x.thumbs(n - 3);
            }
            for (int n = 0; n < 10; n++) {
                x.undo();
            }
        }).changesNothing("undo()", STATE, LychWeights::undo);
        check.promise(14, "year: STATE, ten may be UNDONE");
        new Twins(check, "ten to be UNDONE", x -> {
            for (int n = 0; n < 10; n++) {
                x.oils(n);
            }
        }).changesNothing("year()", STATE, LychWeights::year);
    }

    private static void fulls() {
        check.promise(2, "type: FULL");
        Twins letters = new Twins(check, "a full TEXT", RefusedTest::fullOfLetters);
        letters.changesNothing("type(0)", FULL, x -> x.type(0));
        letters.changesNothing("type(255)", FULL, x -> x.type(255));
        letters.changesNothing("type(' ')", FULL, x -> x.type(' '));
        check.promise(17, "tells: FULL");
        Twins full = new Twins(check, "a full scene", RefusedTest::full);
        full.changesNothing("tells(1, 0)", FULL, x -> x.tells(1, 0));
        full.changesNothing("tells(40, 99)", FULL, x -> x.tells(40, 99));
        check.promise(20, "ask: NONE");
        full.changesNothing("ask()", NONE, LychWeights::ask);
        check.promise(19, "can: NONE");
        full.changesNothing("can(1)", NONE, x -> x.can(1));
    }
}
