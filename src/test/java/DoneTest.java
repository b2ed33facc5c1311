/** Promises 9 to 15: what is done, and undone. */
public final class DoneTest {
    private static final Check check = new Check();

    public static void main(String[] args) {
        laying();
        thumbing();
        adorning();
        sinning();
        oiling();
        years();
        undoing();
        undoingTenAtMost();
        undoingRefused();
        check.end();
    }

    private static void laying() {
        check.promise(9, "lays");
        LychWeights x = Check.read("d30;l10 1 0;l2 0;l30 0;");
        x.thumbs(7);
        check.due("lays(0)", 26, x.lays(0));
        check.due("THUMB is 0", 0, x.now(1));
        check.due("THE NEEDLE", 2, x.now(0));
        check.due("CHALKED", 1, x.now(3));
        check.due("lays(0) again", LychWeights.STATE, x.lays(0));
        check.due("lays(1): rust holds it", 2, x.lays(1));
        check.due("lays(2)", 28, x.lays(2));
        check.due("CHALKED", 7, x.now(3));
        check.due("lays(3)", LychWeights.BAD, x.lays(3));
        check.due("lays(-1)", LychWeights.BAD, x.lays(-1));
        check.due("refused ones can't be UNDONE", 4, x.now(4));
        x = Check.read("l9 0;r9;");
        check.due("a CHALKED 0", 0, x.lays(0));
        check.due("is CHALKED all the same", LychWeights.STATE, x.lays(0));
    }

    private static void thumbing() {
        check.promise(10, "thumbs");
        LychWeights x = Check.read("l10 0;");
        check.due("thumbs(9)", 0, x.thumbs(9));
        check.due("thumbs(-9)", 9, x.thumbs(-9));
        check.due("thumbs(10)", LychWeights.NO, x.thumbs(10));
        check.due("thumbs(-10)", LychWeights.NO, x.thumbs(-10));
        check.due("thumbs(-9)", -9, x.thumbs(-9));
        check.due("now(1)", -9, x.now(1));
        check.due("all three may be UNDONE", 3, x.now(4));
    }

    private static void adorning() {
        check.promise(11, "adorns");
        LychWeights x = Check.read("l10 4;l3 1;");
        check.due("adorns(0, 9)", 4, x.adorns(0, 9));
        check.due("adorns(0, 0)", 9, x.adorns(0, 0));
        check.due("FLOWERS", 0, x.dead(0, 1));
        check.due("FLOWERS of another", 1, x.dead(1, 1));
        x.lays(1);
        check.due("adorns one that is CHALKED", 1, x.adorns(1, 6));
        check.due("LOAD", 9, x.dead(1, 4));
        check.due("adorns(2, 0)", LychWeights.BAD, x.adorns(2, 0));
        check.due("adorns(-1, 0)", LychWeights.BAD, x.adorns(-1, 0));
        check.due("adorns(0, 10)", LychWeights.BAD, x.adorns(0, 10));
        check.due("adorns(0, -1)", LychWeights.BAD, x.adorns(0, -1));
        check.due("may be UNDONE", 4, x.now(4));
    }

    private static void sinning() {
        check.promise(12, "sins");
        LychWeights x = Check.read("d21;d22;d24;l10 0 1;l10 0;");
        check.due("sins(0, 2)", 2, x.sins(0, 2));
        check.due("sins(0, 0)", 3, x.sins(0, 0));
        check.due("DEEDS", 7, x.dead(0, 2));
        check.due("SOUL", 7, x.dead(0, 3));
        check.due("did it already", LychWeights.STATE, x.sins(0, 1));
        check.due("sins(1, 1)", 1, x.sins(1, 1));
        x.lays(1);
        check.due("is CHALKED", LychWeights.STATE, x.sins(1, 0));
        check.due("is CHALKED, no such DEED", LychWeights.BAD, x.sins(1, 3));
        check.due("sins(2, 0)", LychWeights.BAD, x.sins(2, 0));
        check.due("sins(-1, 0)", LychWeights.BAD, x.sins(-1, 0));
        check.due("sins(0, -1)", LychWeights.BAD, x.sins(0, -1));
        check.due("DEEDS", 2, x.dead(1, 2));
        check.due("may be UNDONE", 4, x.now(4));
    }

    private static void oiling() {
        check.promise(13, "oils");
        LychWeights x = Check.read("r6;");
        check.due("oils(0)", 6, x.oils(0));
        check.due("oils(9)", 0, x.oils(9));
        check.due("oils(10)", LychWeights.BAD, x.oils(10));
        check.due("oils(-1)", LychWeights.BAD, x.oils(-1));
        check.due("RUST", 9, x.now(2));
        check.due("RUST as told", 6, x.count(4));
        check.due("may be UNDONE", 2, x.now(4));
    }

    private static void years() {
        check.promise(14, "year");
        LychWeights x = Check.read("r7;");
        check.due("year()", 8, x.year());
        check.due("year()", 9, x.year());
        check.due("year()", LychWeights.STATE, x.year());
        check.due("RUST", 9, x.now(2));
        check.due("may be UNDONE", 2, x.now(4));
    }

    private static void undoing() {
        check.promise(15, "undo");
        LychWeights x = Check.read("d25;l10 1;l20 2;");
        x.thumbs(5);
        x.lays(0);
        x.adorns(1, 7);
        x.sins(1, 0);
        x.oils(8);
        x.year();
        x.rate(0, 0);
        x.tells(4, 4);
        check.due("undo() of year()", 5, x.undo());
        check.due("RUST", 8, x.now(2));
        check.due("undo() of oils()", 4, x.undo());
        check.due("RUST", 2, x.now(2));
        check.due("undo() of sins()", 3, x.undo());
        check.due("DEEDS", 0, x.dead(1, 2));
        check.due("undo() of adorns()", 2, x.undo());
        check.due("FLOWERS", 2, x.dead(1, 1));
        check.due("THE NEEDLE", 2, x.now(0));
        check.due("undo() of lays()", 1, x.undo());
        check.due("CHALKED", LychWeights.NONE, x.dead(0, 5));
        check.due("THE NEEDLE", 0, x.now(0));
        check.due("THUMB", 5, x.now(1));
        check.due("undo() of thumbs()", 0, x.undo());
        check.due("THUMB", 0, x.now(1));
        check.due("undo()", LychWeights.STATE, x.undo());
        check.due("trace() goes on", 1, x.trace());
        check.due("what is TOLD stays", 1, x.count(5));
        x.thumbs(1);
        check.due("lays(0) once more", 10, x.lays(0));
        check.due("may be UNDONE again", 2, x.now(4));
    }

    private static void undoingTenAtMost() {
        check.promise(15, "undo: 10 are known");
        LychWeights x = new LychWeights();
        for (int n = -9; n <= 9; n++) {
            x.thumbs(n);
            check.due("may be UNDONE", Math.min(10, n + 10), x.now(4));
        }
        for (int more = 9; more >= 0; more--) {
            check.due("undo()", more, x.undo());
            check.due("THUMB", more - 1, x.now(1));
        }
        check.due("undo()", LychWeights.STATE, x.undo());
        x.thumbs(3);
        x.thumbs(4);
        check.due("undo()", 1, x.undo());
        x.thumbs(5);
        check.due("undo()", 1, x.undo());
        check.due("THUMB", 3, x.now(1));
    }

    private static void undoingRefused() {
        check.promise(15, "undo: not what was refused");
        LychWeights x = Check.read("d20;l10 0;r8;");
        x.year();
        x.year();
        x.thumbs(10);
        x.lays(1);
        x.oils(10);
        x.adorns(0, 10);
        x.sins(0, 1);
        x.keep(0);
        check.due("undo()", 0, x.undo());
        check.due("RUST", 8, x.now(2));
        x.keep(1);
        x.thumbs(6);
        x.back(1);
        check.due("nothing behind back()", LychWeights.STATE, x.undo());
        x.oils(3);
        check.due("but what came since", 0, x.undo());
    }
}
