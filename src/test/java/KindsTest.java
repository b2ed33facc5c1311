/** Promises 24 to 28: RATE and THE TRACE, IMAGES. */
public final class KindsTest {
    private static final Check check = new Check();

    public static void main(String[] args) {
        rating();
        ratingRefused();
        tracing();
        keeping();
        backing();
        imagesApart();
        imagesRefused();
        check.end();
    }

    private static void rating() {
        check.promise(24, "rate");
        LychWeights x = Check.read("d25;d8;d22;l20 0 0 1;l30 0 1;l5 0;r3;");
        int[][] due = {{5, 6, 2, 12, 2, 5}, {-12, -10, -15, -20, -14, -12}, {2, 2, -1, 4, 1, 2}};
        for (int d = 0; d < 3; d++) {
            for (int kind = 0; kind < 6; kind++) {
                check.due("rate(" + kind + ", " + d + ")", due[d][kind], x.rate(kind, d));
            }
        }
        x.lays(0);
        check.due("THEFT and THE NEEDLE", 8, x.rate(5, 0));
        x.oils(7);
        check.due("LIE less RUST", -2, x.rate(2, 0));
        check.due("KISS less RUST", -3, x.rate(4, 2));
        x.sins(2, 0);
        check.due("DEBT and who did it", 7, x.rate(1, 0));
        check.due("OATH", 14, x.rate(3, 0));
    }

    private static void ratingRefused() {
        check.promise(24, "rate: BAD");
        LychWeights x = Check.read("d25;");
        check.due("rate(6, 0)", LychWeights.NO, x.rate(6, 0));
        check.due("rate(-1, 0)", LychWeights.NO, x.rate(-1, 0));
        check.due("rate(0, 1)", LychWeights.NO, x.rate(0, 1));
        check.due("rate(3, -1)", LychWeights.NO, x.rate(3, -1));
        check.due("trace()", 0, x.trace());
    }

    private static void tracing() {
        check.promise(28, "trace");
        LychWeights x = Check.read("d25;d20;");
        long[] due = {1, 11, 101, 1011, 10101, 100001};
        long sum = 0;
        for (int kind = 0; kind < 6; kind++) {
            x.rate(kind, kind % 2);
            sum += due[kind];
            check.due("trace() behind rate(" + kind + ")", sum, x.trace());
        }
        x.keep(0);
        x.thumbs(4);
        x.rate(5, 0);
        x.undo();
        check.due("trace() behind undo()", sum + 100001, x.trace());
        x.back(0);
        check.due("trace() behind back()", sum + 100001, x.trace());
        x.gate();
        check.due("trace() behind gate()", sum + 100001, x.trace());
    }

    private static void keeping() {
        check.promise(25, "keep");
        LychWeights x = Check.read("l20 0;r6;");
        check.due("keep(0)", 0, x.keep(0));
        x.lays(0);
        check.due("keep(1)", 6, x.keep(1));
        check.due("keep(0) anew", 6, x.keep(0));
        check.due("it can't be UNDONE itself", 1, x.now(4));
        x.undo();
        check.due("back(0)", 6, x.back(0));
        check.due("CHALKED", 14, x.dead(0, 5));
    }

    private static void backing() {
        check.promise(26, "back");
        LychWeights x = Check.read("d30;d10;l20 3;l8 0 1;b5;r4;");
        x.thumbs(2);
        x.sins(0, 0);
        x.keep(0);
        x.lays(0);
        x.sins(1, 0);
        x.adorns(0, 9);
        x.adorns(1, 5);
        x.year();
        x.thumbs(-9);
        x.tells(3, 3);
        Check.type(x, "d1");
        check.due("back(0)", 0, x.back(0));
        int[] nows = {0, 2, 4, 0, 0};
        for (int what = 0; what < nows.length; what++) {
            check.due("now(" + what + ")", nows[what], x.now(what));
        }
        int[][] due = {{20, 3, 1, 10, 35, -9, 31, -1000000}, {8, 0, 2, -10, 0, -9, 0, -1000000}};
        for (int l = 0; l < 2; l++) {
            for (int what = 0; what < 8; what++) {
                check.due("dead(" + l + ", " + what + ")", due[l][what], x.dead(l, what));
            }
        }
        check.due("nothing can be UNDONE", LychWeights.STATE, x.undo());
        check.due("TOLD stays", 1, x.count(5));
        check.due("THE TEXT stays", 2, x.count(6));
        x.thumbs(0);
        check.due("back(0) a second time", 0, x.back(0));
        check.due("THUMB", 2, x.now(1));
    }

    private static void imagesApart() {
        check.promise(26, "back: two IMAGES");
        LychWeights x = Check.read("l20 0;l30 0;");
        x.keep(1);
        check.due("back(0)", LychWeights.STATE, x.back(0));
        x.lays(0);
        x.keep(0);
        x.lays(1);
        check.due("back(1)", 0, x.back(1));
        check.due("none CHALKED", 0, x.now(3));
        check.due("back(0)", 2, x.back(0));
        check.due("one CHALKED", 1, x.now(3));
        x.undo();
        check.due("an undo() that is refused changes nothing", 1, x.now(3));
        x.thumbs(5);
        x.undo();
        check.due("IMAGES stay behind undo()", 0, x.back(1));
    }

    private static void imagesRefused() {
        check.promise(26, "keep, back: BAD, STATE");
        LychWeights x = new LychWeights();
        check.due("keep(2)", LychWeights.BAD, x.keep(2));
        check.due("keep(-1)", LychWeights.BAD, x.keep(-1));
        check.due("back(2)", LychWeights.BAD, x.back(2));
        check.due("back(-1)", LychWeights.BAD, x.back(-1));
        x.thumbs(1);
        check.due("back(1)", LychWeights.STATE, x.back(1));
        check.due("a refused back() loses nothing", 1, x.now(4));
    }
}
