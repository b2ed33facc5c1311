/** Promises 24 to 28 (but 27): each sentence about RATE, THE TRACE and IMAGES that names an edge has a test of its own. */
public final class KindsEdgesTest {
    private static final long[] BODIES = {1, 11, 101, 1011, 10101, 100001};
    private static final Check check = new Check();

    public static void main(String[] args) {
        rateKindsAre0To5();
        rateOfTheDeedsThatThereAre();
        rateAtTheLeastAndTheGreatest();
        rateByHowManyDidIt();
        rateByRustAndNeedle();
        rateByTheDeedsNumber();
        traceIsAddedOncePerBody();
        traceAtFirstAndWhenRefused();
        traceGoesOn();
        traceOfAllCalls();
        keepImages0And1();
        keepOver();
        keepChangesNothingElse();
        backImages0And1();
        backNoneWasKept();
        backBadIsAheadOfState();
        backBringsEach();
        backBringsNothingElse();
        backLeavesNothingToUndo();
        backAgainAndAgain();
        backToTheSameObjectsPastAlone();
        imagesAreGoneBehindGate();
        check.end();
    }

    private static void rateKindsAre0To5() {
        check.promise(24, "a KIND 0 .. 5; NO: BAD");
        LychWeights x = Check.read("d28;l30 0 0;l1 0 0;r3;");
        x.lays(0);
        int[] due = {8, 10, 5, 20, 5, 11};
        for (int kind = 0; kind < 6; kind++) {
            check.due("rate(" + kind + ", 0)", due[kind], x.rate(kind, 0));
        }
        for (int kind : new int[] {-1, 6, 7, 32, -32, Integer.MIN_VALUE, Integer.MAX_VALUE}) {
            check.due("rate(" + kind + ", 0)", LychWeights.NO, x.rate(kind, 0));
            check.due("rate(" + kind + ", 1)", LychWeights.NO, x.rate(kind, 1));
        }
    }

    private static void rateOfTheDeedsThatThereAre() {
        check.promise(24, "RATE of a DEED; NO: BAD");
        String text = "r0;";
        for (int n = 0; n <= 6; n++) {
            LychWeights x = Check.read(text);
            for (int kind = 0; kind < 6; kind++) {
                for (int d : new int[] {-1, n, 6, 32, Integer.MIN_VALUE, Integer.MAX_VALUE}) {
                    check.due("rate(" + kind + ", " + d + ")", LychWeights.NO, x.rate(kind, d));
                }
            }
            check.due("trace()", 0, x.trace());
            for (int d = 0; d < n; d++) {
                check.due("rate(0, " + d + ")", d + 1, x.rate(0, d));
                check.due("rate(3, " + d + ")", 2 * d + 2, x.rate(3, d));
            }
            text += "d2" + (n + 1) + ";";
        }
    }

    private static void rates(LychWeights x, int d, int... due) {
        for (int kind = 0; kind < 6; kind++) {
            check.due("rate(" + kind + ", " + d + ")", due[kind], x.rate(kind, d));
        }
    }

    private static void rateAtTheLeastAndTheGreatest() {
        check.promise(24, "RATE at its least and its greatest");
        LychWeights x = Check.read("d0;d0;d0;d0;d0;d40;" + "l40 9 5;".repeat(6) + "r9;");
        rates(x, 0, -20, -20, -29, -40, -29, -20);
        rates(x, 4, -20, -20, -29, -40, -25, -20);
        x.lays(0);
        x.oils(0);
        check.due("THE NEEDLE", 9, x.now(0));
        rates(x, 5, 20, 26, 20, 52, 25, 29);
    }

    private static void rateByHowManyDidIt() {
        check.promise(24, "DEBT up, and how many did it; OATH twice up");
        LychWeights x = Check.read("d20;d23;" + "l1 0;".repeat(6));
        for (int many = 0; many <= 6; many++) {
            check.due("DEBT by " + many, 3 + many, x.rate(1, 1));
            check.due("OATH by " + many, 6 + 2 * many, x.rate(3, 1));
            check.due("DEBT by none", 0, x.rate(1, 0));
            x.sins(5 - many, 1);
        }
        x.undo();
        check.due("DEBT, one UNDONE", 8, x.rate(1, 1));
    }

    private static void rateByRustAndNeedle() {
        check.promise(24, "LIE up less RUST (as it is now); THEFT up, and THE NEEDLE");
        LychWeights x = Check.read("d30;l40 0;r9;");
        check.due("LIE at RUST 9", 1, x.rate(2, 0));
        check.due("KISS at RUST 9", 1, x.rate(4, 0));
        check.due("THEFT at NEEDLE 0", 10, x.rate(5, 0));
        x.lays(0);
        check.due("THEFT at NEEDLE 9", 19, x.rate(5, 0));
        x.oils(0);
        check.due("LIE at RUST 0", 10, x.rate(2, 0));
        check.due("KISS at RUST 0", 10, x.rate(4, 0));
        check.due("THEFT is not moved by it", 19, x.rate(5, 0));
        x.undo();
        x.undo();
        check.due("THEFT at NEEDLE 0", 10, x.rate(5, 0));
    }

    private static void rateByTheDeedsNumber() {
        check.promise(24, "KISS up, and its number: 0 .. 5");
        LychWeights x = Check.read("d20;".repeat(6) + "r0;");
        for (int d = 0; d < 6; d++) {
            check.due("KISS of " + d, d, x.rate(4, d));
            check.due("LIE of " + d, 0, x.rate(2, d));
        }
    }

    private static void traceIsAddedOncePerBody() {
        check.promise(28, "as often as rate() asks that body: each once");
        for (int kind = 0; kind < 6; kind++) {
            LychWeights x = Check.read("d20;d21;");
            for (int n = 1; n <= 3; n++) {
                x.rate(kind, n % 2);
                check.due("trace() behind rate(" + kind + ") " + n + " times", n * BODIES[kind], x.trace());
            }
        }
    }

    private static void traceAtFirstAndWhenRefused() {
        check.promise(28, "0 at first; nothing is added by a rate() that is BAD");
        LychWeights x = new LychWeights();
        check.due("trace()", 0, x.trace());
        x.rate(0, 0);
        x = Check.read("d21;l1 0 0;r0;");
        x.rate(6, 0);
        x.rate(-1, 0);
        x.rate(5, 1);
        x.rate(3, -1);
        check.due("trace()", 0, x.trace());
        x.deed(0, 0);
        x.deed(0, 1);
        x.dead(0, 3);
        x.lays(0);
        x.life(0, 0);
        check.due("trace(): rate() alone adds", 0, x.trace());
        check.due("trace() again", 0, x.trace());
    }

    private static void traceGoesOn() {
        check.promise(28, "THE TRACE goes on behind gate(), undo(), back()");
        LychWeights x = Check.read("d21;");
        x.rate(0, 0);
        x.keep(0);
        x.thumbs(1);
        x.rate(1, 0);
        x.undo();
        check.due("behind undo()", 12, x.trace());
        x.rate(2, 0);
        x.back(0);
        check.due("behind back()", 113, x.trace());
        x.type('x');
        x.gate();
        check.due("behind a FAULT", 113, x.trace());
        x.clear();
        x.gate();
        check.due("behind gate()", 113, x.trace());
        check.due("no DEEDS now", LychWeights.NO, x.rate(0, 0));
        Check.type(x, "d22;");
        x.gate();
        x.rate(0, 0);
        check.due("and on", 114, x.trace());
    }

    private static void traceOfAllCalls() {
        check.promise(28, "THE TRACE at its greatest: 512 calls");
        LychWeights x = Check.read("d20;");
        int calls = 5;
        for (; calls < 511; calls++) {
            x.rate(5, 0);
        }
        check.due("trace(), the 512th call", 506L * 100001, x.trace());
    }

    private static void keepImages0And1() {
        check.promise(25, "IMAGES 0, 1; BAD");
        LychWeights x = Check.read("l40 0;r7;");
        x.lays(0);
        check.due("keep(0)", 7, x.keep(0));
        check.due("keep(1)", 7, x.keep(1));
        for (int image : new int[] {-1, 2, 3, 32, 33, Integer.MIN_VALUE, Integer.MAX_VALUE}) {
            check.due("keep(" + image + ")", LychWeights.BAD, x.keep(image));
        }
        check.due("keep(0) of a new object", 0, new LychWeights().keep(0));
    }

    private static void keepOver() {
        check.promise(25, "an IMAGE is kept (over the former one)");
        LychWeights x = Check.read("l40 0;r7;");
        check.due("keep(0)", 0, x.keep(0));
        x.lays(0);
        check.due("keep(0)", 7, x.keep(0));
        x.undo();
        check.due("back(0)", 7, x.back(0));
        check.due("CHALKED", 1, x.now(3));
        check.due("none in the other", LychWeights.STATE, x.back(1));
    }

    private static void keepChangesNothingElse() {
        check.promise(25, "keep() changes that IMAGE alone");
        Twins rich = new Twins(check, "a scene with an IMAGE 1", x -> {
            RefusedTest.rich(x);
            x.keep(1);
        });
        rich.changesNothing("keep(1) a second time", 1, x -> x.keep(1));
        LychWeights x = Check.read("l9 0;");
        x.thumbs(4);
        x.keep(0);
        check.due("may be UNDONE", 1, x.now(4));
        check.due("THUMB", 4, x.now(1));
        check.due("undo() of thumbs()", 0, x.undo());
    }

    private static void backImages0And1() {
        check.promise(26, "IMAGES 0, 1: THE NEEDLE; BAD");
        LychWeights x = Check.read("l40 0;r7;");
        x.keep(0);
        x.lays(0);
        x.keep(1);
        for (int image : new int[] {-1, 2, 3, 32, 33, Integer.MIN_VALUE, Integer.MAX_VALUE}) {
            check.due("back(" + image + ")", LychWeights.BAD, x.back(image));
        }
        check.due("a back() that is BAD loses nothing", 1, x.now(4));
        check.due("back(0)", 0, x.back(0));
        check.due("back(1)", 7, x.back(1));
        check.due("back(1) again", 7, x.back(1));
        check.due("back(0)", 0, x.back(0));
    }

    private static void backNoneWasKept() {
        check.promise(26, "STATE: none was kept");
        LychWeights x = new LychWeights();
        x.thumbs(5);
        check.due("back(0)", LychWeights.STATE, x.back(0));
        check.due("back(1)", LychWeights.STATE, x.back(1));
        check.due("a back() that is refused loses nothing", 1, x.now(4));
        check.due("THUMB", 5, x.now(1));
        x.keep(1);
        check.due("back(0)", LychWeights.STATE, x.back(0));
        check.due("back(1)", 0, x.back(1));
        x = new LychWeights();
        x.keep(0);
        check.due("back(1)", LychWeights.STATE, x.back(1));
        check.due("back(0)", 0, x.back(0));
        x.keep(2);
        x.keep(-1);
        check.due("back(1): keep(2), keep(-1) kept none", LychWeights.STATE, x.back(1));
    }

    private static void backBadIsAheadOfState() {
        check.promise(26, "BAD ahead of STATE");
        LychWeights x = new LychWeights();
        check.due("back(2)", LychWeights.BAD, x.back(2));
        check.due("back(-1)", LychWeights.BAD, x.back(-1));
        check.due("back(0)", LychWeights.STATE, x.back(0));
    }

    private static void backBringsEach() {
        check.promise(26, "THE NEEDLE, THUMB, RUST, FLOWERS, who did which DEEDS, what is CHALKED");
        for (int image = 0; image < 2; image++) {
            LychWeights x = Check.read("d30;d10;" + "l20 3;".repeat(6) + "r4;");
            x.lays(5);
            x.thumbs(-3);
            x.adorns(0, 8);
            x.adorns(5, 7);
            x.sins(0, 1);
            x.sins(4, 0);
            x.oils(6);
            x.keep(image);
            String kept = withoutUndone(x);
            x.oils(1);
            x.lays(0);
            x.thumbs(9);
            x.adorns(0, 0);
            x.adorns(5, 0);
            x.sins(4, 1);
            x.sins(1, 0);
            check.due("back(" + image + ")", 4, x.back(image));
            String got = withoutUndone(x);
            check.due("NOW: " + got + ", due is " + kept, 1, got.equals(kept) ? 1 : 0);
            check.due("RUST", 6, x.now(2));
            check.due("THUMB", -3, x.now(1));
            check.due("CHALKED", 32, x.now(3));
        }
    }

    private static String withoutUndone(LychWeights x) {
        return Twins.scene(x).replaceFirst("(NOW \\S+ \\S+ \\S+ \\S+) \\S+", "$1");
    }

    private static void backBringsNothingElse() {
        check.promise(26, "IMAGES keep nothing else");
        LychWeights x = Check.read("d21;b5;b6;p33;r4;");
        x.tells(5, 5);
        x.type('d');
        x.rate(0, 0);
        x.keep(0);
        x.keep(1);
        x.tells(6, 6);
        x.type('5');
        x.rate(1, 0);
        x.thumbs(3);
        x.keep(1);
        check.due("back(0)", 0, x.back(0));
        int[] counts = {1, 0, 2, 33, 4, 2, 2};
        for (int what = 0; what < counts.length; what++) {
            check.due("count(" + what + ")", counts[what], x.count(what));
        }
        check.due("trace()", 12, x.trace());
        check.due("the other IMAGE is as it was kept last", 0, x.back(1));
        check.due("THUMB", 3, x.now(1));
        x.type(';');
        check.due("gate() of d5;", 1, x.gate());
        x = Check.read("d21;");
        x.keep(0);
        x.tells(5, 3);
        x.forget();
        x.back(0);
        check.due("what was forgotten stays so", 0, x.count(5));
    }

    private static void backLeavesNothingToUndo() {
        check.promise(26, "nothing can be UNDONE behind back()");
        LychWeights x = new LychWeights();
        x.thumbs(1);
        x.keep(0);
        for (int n = 0; n < 12; n++) {
            x.thumbs(n - 6);
        }
        check.due("back(0)", 0, x.back(0));
        check.due("may be UNDONE", 0, x.now(4));
        check.due("undo()", LychWeights.STATE, x.undo());
        check.due("THUMB", 1, x.now(1));
        x.thumbs(8);
        check.due("what came since", 0, x.undo());
        check.due("THUMB", 1, x.now(1));
        check.due("undo()", LychWeights.STATE, x.undo());
        for (int n = 1; n <= 11; n++) {
            x.oils(n % 10);
            check.due("may be UNDONE", Math.min(n, 10), x.now(4));
        }
    }

    private static void backAgainAndAgain() {
        check.promise(26, "all of that becomes as an IMAGE has it, each time");
        LychWeights x = Check.read("d21;l20 1;l9 0;r2;");
        x.keep(0);
        String kept = withoutUndone(x);
        for (int n = 0; n < 4; n++) {
            x.adorns(0, 9 - n);
            x.sins(1, 0);
            x.lays(n % 2);
            x.oils(9);
            x.thumbs(n + 1);
            check.due("back(0)", 0, x.back(0));
            String got = withoutUndone(x);
            check.due("NOW: " + got + ", due is " + kept, 1, got.equals(kept) ? 1 : 0);
        }
    }

    private static void backToTheSameObjectsPastAlone() {
        check.promise(26, "an IMAGE is not changed by undo(), nor by what is done behind keep() or back()");
        LychWeights x = Check.read("d21;l20 1;");
        x.thumbs(5);
        x.keep(0);
        x.undo();
        check.due("THUMB", 0, x.now(1));
        check.due("back(0)", 0, x.back(0));
        check.due("THUMB", 5, x.now(1));
        x.thumbs(7);
        x.keep(1);
        x.adorns(0, 8);
        x.sins(0, 0);
        x.back(0);
        check.due("THUMB", 5, x.now(1));
        check.due("FLOWERS", 1, x.dead(0, 1));
        x.back(1);
        check.due("THUMB", 7, x.now(1));
        check.due("FLOWERS", 1, x.dead(0, 1));
        check.due("DEEDS", 0, x.dead(0, 2));
    }

    private static void imagesAreGoneBehindGate() {
        check.promise(26, "IMAGES are gone behind gate(), not behind a FAULT");
        LychWeights x = Check.read("l9 0;");
        x.keep(0);
        x.keep(1);
        x.type('x');
        x.gate();
        check.due("back(0) behind a FAULT", 0, x.back(0));
        check.due("back(1) behind a FAULT", 0, x.back(1));
        x.clear();
        Check.type(x, "l9 0;");
        x.gate();
        check.due("back(0)", LychWeights.STATE, x.back(0));
        check.due("back(1)", LychWeights.STATE, x.back(1));
        x.keep(1);
        check.due("back(0): the other is gone still", LychWeights.STATE, x.back(0));
        check.due("back(1)", 0, x.back(1));
    }
}
