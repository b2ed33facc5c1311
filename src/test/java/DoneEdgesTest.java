import java.util.ArrayList;
import java.util.List;

/** Promises 10 to 15: each sentence about what is done, and UNDONE, that names an edge has a test of its own. */
public final class DoneEdgesTest {
    private static final Check check = new Check();

    public static void main(String[] args) {
        thumbsAreMinus9To9();
        thumbsNeedNoDead();
        flowersAre0To9();
        flowersAreOfThoseThatThereAre();
        flowersOfThoseChalked();
        sinsAreOneToSix();
        sinsOfThoseChalked();
        sinsDoneAlready();
        sinsBadIsAheadOfState();
        oilsAre0To9();
        oilsLeaveWhatWasTold();
        yearsGoTo9();
        yearsAtMost();
        undoingNone();
        undoingTenAtMost();
        undoingWrapsAround();
        undoingEach();
        undoingOneThatChangedNothing();
        undoingNothingElse();
        undoingNothingRefused();
        undoingForGood();
        undoingAMixtureOfMany();
        check.end();
    }

    private static void thumbsAreMinus9To9() {
        check.promise(10, "THUMB is n (-9 .. 9); NO: BAD");
        LychWeights x = new LychWeights();
        int till = 0;
        for (int n = -9; n <= 9; n++) {
            check.due("thumbs(" + n + ")", till, x.thumbs(n));
            check.due("THUMB", n, x.now(1));
            till = n;
        }
        for (int n : new int[] {-10, 10, -11, 11, -23, 32, Integer.MIN_VALUE, Integer.MAX_VALUE}) {
            check.due("thumbs(" + n + ")", LychWeights.NO, x.thumbs(n));
            check.due("THUMB", 9, x.now(1));
        }
        check.due("thumbs(9) once more", 9, x.thumbs(9));
        check.due("thumbs(-9)", 9, x.thumbs(-9));
        check.due("thumbs(0)", -9, x.thumbs(0));
    }

    private static void thumbsNeedNoDead() {
        check.promise(10, "THUMBED: with no DEAD, with all CHALKED");
        LychWeights x = new LychWeights();
        check.due("thumbs(9)", 0, x.thumbs(9));
        x = Check.read("l1 0;");
        x.lays(0);
        check.due("thumbs(-9)", 0, x.thumbs(-9));
        check.due("thumbs(9)", -9, x.thumbs(9));
    }

    private static void flowersAre0To9() {
        check.promise(11, "FLOWERS of one become n (0 .. 9); BAD");
        LychWeights x = Check.read("l1 7;l1 3;");
        int till = 7;
        for (int n = 0; n <= 9; n++) {
            check.due("adorns(0, " + n + ")", till, x.adorns(0, n));
            check.due("FLOWERS", n, x.dead(0, 1));
            check.due("LOAD", n + 1, x.dead(0, 4));
            till = n;
        }
        for (int n : new int[] {-1, 10, -10, 16, 41, 256, Integer.MIN_VALUE, Integer.MAX_VALUE}) {
            check.due("adorns(0, " + n + ")", LychWeights.BAD, x.adorns(0, n));
        }
        check.due("FLOWERS", 9, x.dead(0, 1));
        check.due("FLOWERS of the other", 3, x.dead(1, 1));
        check.due("adorns(0, 9) once more", 9, x.adorns(0, 9));
    }

    private static void flowersAreOfThoseThatThereAre() {
        check.promise(11, "FLOWERS of one of THE DEAD; BAD");
        check.due("of none", LychWeights.BAD, new LychWeights().adorns(0, 0));
        LychWeights x = Check.read("l1 0;l1 1;l1 2;l1 3;l1 4;l1 5;");
        for (int l = 0; l < 6; l++) {
            check.due("adorns(" + l + ", 9)", l, x.adorns(l, 9));
        }
        for (int l : new int[] {-1, 6, 32, -32, Integer.MIN_VALUE, Integer.MAX_VALUE}) {
            check.due("adorns(" + l + ", 0)", LychWeights.BAD, x.adorns(l, 0));
            check.due("adorns(" + l + ", 10)", LychWeights.BAD, x.adorns(l, 10));
        }
    }

    private static void flowersOfThoseChalked() {
        check.promise(11, "ADORNED: of one that is CHALKED, too");
        LychWeights x = Check.read("l10 2;");
        x.lays(0);
        check.due("adorns(0, 9)", 2, x.adorns(0, 9));
        check.due("FLOWERS", 9, x.dead(0, 1));
        check.due("what is CHALKED stays", 10, x.dead(0, 5));
        check.due("ERROR", -9, x.dead(0, 7));
    }

    private static void sinsAreOneToSix() {
        check.promise(12, "how many DEEDS he did: 1 .. 6");
        LychWeights x = Check.read("d21;d22;d24;d28;d36;d19;l1 0;l1 0;");
        int[] order = {5, 0, 3, 1, 4, 2};
        int bits = 0;
        for (int i = 0; i < 6; i++) {
            check.due("sins(1, " + order[i] + ")", i + 1, x.sins(1, order[i]));
            bits += 1 << order[i];
            check.due("DEEDS", bits, x.dead(1, 2));
        }
        check.due("SOUL", 30, x.dead(1, 3));
        check.due("DEEDS of the other", 0, x.dead(0, 2));
        for (int d = 0; d < 6; d++) {
            check.due("sins(1, " + d + ")", LychWeights.STATE, x.sins(1, d));
        }
    }

    private static void sinsOfThoseChalked() {
        check.promise(12, "STATE: he is CHALKED");
        LychWeights x = Check.read("d21;d22;l1 0 0;l1 0;");
        x.lays(0);
        check.due("one that he did not", LychWeights.STATE, x.sins(0, 1));
        check.due("one that he did", LychWeights.STATE, x.sins(0, 0));
        check.due("the other is not CHALKED", 1, x.sins(1, 1));
        check.due("DEEDS", 1, x.dead(0, 2));
        x.undo();
        x.undo();
        check.due("CHALKED no more", 2, x.sins(0, 1));
    }

    private static void sinsDoneAlready() {
        check.promise(12, "STATE: (he) did it");
        LychWeights x = Check.read("d21;d22;l1 0 1;");
        check.due("as told", LychWeights.STATE, x.sins(0, 1));
        check.due("sins(0, 0)", 2, x.sins(0, 0));
        check.due("as done", LychWeights.STATE, x.sins(0, 0));
        x.undo();
        check.due("UNDONE", 2, x.sins(0, 0));
    }

    private static void sinsBadIsAheadOfState() {
        check.promise(12, "BAD ahead of STATE");
        LychWeights x = Check.read("d21;d22;l1 0 0 1;l1 0;");
        x.lays(0);
        for (int d : new int[] {-1, 2, 6, 32, 33, Integer.MIN_VALUE, Integer.MAX_VALUE}) {
            check.due("CHALKED, and no DEED " + d, LychWeights.BAD, x.sins(0, d));
            check.due("no DEED " + d, LychWeights.BAD, x.sins(1, d));
        }
        for (int l : new int[] {-1, 2, 6, 32, Integer.MIN_VALUE, Integer.MAX_VALUE}) {
            check.due("none of THE DEAD: " + l, LychWeights.BAD, x.sins(l, 0));
            check.due("none of THE DEAD: " + l + ", no DEED", LychWeights.BAD, x.sins(l, 2));
        }
        check.due("no DEEDS at all", LychWeights.BAD, Check.read("l1 0;").sins(0, 0));
        check.due("no DEAD at all", LychWeights.BAD, Check.read("d1;").sins(0, 0));
    }

    private static void oilsAre0To9() {
        check.promise(13, "RUST is n (0 .. 9); BAD");
        LychWeights x = new LychWeights();
        int till = 2;
        for (int n = 0; n <= 9; n++) {
            check.due("oils(" + n + ")", till, x.oils(n));
            check.due("RUST", n, x.now(2));
            till = n;
        }
        for (int n : new int[] {-1, 10, -10, 16, 256, Integer.MIN_VALUE, Integer.MAX_VALUE}) {
            check.due("oils(" + n + ")", LychWeights.BAD, x.oils(n));
        }
        check.due("RUST", 9, x.now(2));
        check.due("oils(9) once more", 9, x.oils(9));
        check.due("oils(0)", 9, x.oils(0));
    }

    private static void oilsLeaveWhatWasTold() {
        check.promise(13, "RUST till then: at first as told");
        check.due("r0", 0, Check.read("r0;").oils(5));
        check.due("r9", 9, Check.read("r9;").oils(5));
        check.due("not told", 2, Check.read("").oils(5));
    }

    private static void yearsGoTo9() {
        check.promise(14, "RUST is 1 more (9 at most); STATE: it is 9");
        LychWeights x = Check.read("r0;");
        for (int rust = 1; rust <= 9; rust++) {
            check.due("year()", rust, x.year());
            check.due("RUST", rust, x.now(2));
        }
        check.due("year()", LychWeights.STATE, x.year());
        check.due("year() again", LychWeights.STATE, x.year());
        check.due("RUST", 9, x.now(2));
        check.due("nine may be UNDONE", 9, x.now(4));
        x.undo();
        check.due("year() once more", 9, x.year());
    }

    private static void yearsAtMost() {
        check.promise(14, "STATE at 9, be it told or oiled");
        check.due("r9", LychWeights.STATE, Check.read("r9;").year());
        check.due("r8", 9, Check.read("r8;").year());
        LychWeights x = new LychWeights();
        x.oils(9);
        check.due("oils(9)", LychWeights.STATE, x.year());
        x.oils(8);
        check.due("oils(8)", 9, x.year());
    }

    private static void undoingNone() {
        check.promise(15, "STATE: none");
        check.due("of a new object", LychWeights.STATE, new LychWeights().undo());
        LychWeights x = new LychWeights();
        x.thumbs(4);
        x.gate();
        check.due("behind gate()", LychWeights.STATE, x.undo());
        x.keep(0);
        x.thumbs(4);
        x.back(0);
        check.due("behind back()", LychWeights.STATE, x.undo());
        x.thumbs(4);
        check.due("one", 0, x.undo());
        check.due("and no more", LychWeights.STATE, x.undo());
        check.due("THUMB", 0, x.now(1));
    }

    private static void undoingTenAtMost() {
        check.promise(15, "10 are known, older ones are lost");
        for (int done = 0; done <= 19; done++) {
            LychWeights x = new LychWeights();
            for (int n = 1; n <= done; n++) {
                x.thumbs(n - 10);
                check.due("may be UNDONE", Math.min(n, 10), x.now(4));
            }
            int known = Math.min(done, 10);
            for (int n = 1; n <= known; n++) {
                check.due("undo() " + n + " of " + done, known - n, x.undo());
                check.due("THUMB", n == done ? 0 : done - n - 10, x.now(1));
                check.due("may be UNDONE", known - n, x.now(4));
            }
            check.due("undo() once more", LychWeights.STATE, x.undo());
            check.due("THUMB", done <= 10 ? 0 : done - 20, x.now(1));
        }
    }

    private static void undoingWrapsAround() {
        check.promise(15, "10 are known, however many there were, UNDONE ones between");
        LychWeights x = new LychWeights();
        x.oils(0);
        for (int round = 0; round < 11; round++) {
            for (int n = 0; n < 7; n++) {
                x.thumbs((round + n) % 10);
            }
            for (int n = 6; n >= 4; n--) {
                x.undo();
                check.due("THUMB", (round + n - 1) % 10, x.now(1));
            }
            check.due("may be UNDONE", round == 0 ? 5 : 7, x.now(4));
        }
        for (int more = 6; more >= 0; more--) {
            check.due("undo()", more, x.undo());
        }
        check.due("undo()", LychWeights.STATE, x.undo());
        check.due("THUMB", 9, x.now(1));
        check.due("oils() is lost", 0, x.now(2));
    }

    private static void undoingEach() {
        check.promise(15, "lays(), thumbs(), adorns(), sins(), oils(), year()");
        LychWeights x = Check.read("d25;l30 4;r3;");
        x.thumbs(-5);
        String first = Twins.scene(x);
        x.lays(0);
        check.due("undo() of lays()", 1, x.undo());
        same("lays()", first, x);
        x.thumbs(6);
        check.due("undo() of thumbs()", 1, x.undo());
        same("thumbs()", first, x);
        x.adorns(0, 0);
        check.due("undo() of adorns()", 1, x.undo());
        same("adorns()", first, x);
        x.sins(0, 0);
        check.due("undo() of sins()", 1, x.undo());
        same("sins()", first, x);
        x.oils(0);
        check.due("undo() of oils()", 1, x.undo());
        same("oils()", first, x);
        x.year();
        check.due("undo() of year()", 1, x.undo());
        same("year()", first, x);
    }

    private static void same(String call, String due, LychWeights x) {
        String got = Twins.scene(x);
        check.due("NOW behind undo() of " + call + ": " + got + ", due is " + due, 1, got.equals(due) ? 1 : 0);
    }

    private static void undoingOneThatChangedNothing() {
        check.promise(15, "not refused, be nothing changed by it");
        LychWeights x = Check.read("l9 4;r3;");
        x.thumbs(0);
        x.adorns(0, 4);
        x.oils(3);
        check.due("may be UNDONE", 3, x.now(4));
        check.due("undo()", 2, x.undo());
        check.due("undo()", 1, x.undo());
        check.due("undo()", 0, x.undo());
        check.due("undo()", LychWeights.STATE, x.undo());
    }

    private static void undoingNothingElse() {
        check.promise(15, "nothing but those six may be UNDONE");
        LychWeights x = Check.read("d25;l9 4;b1;b1;b1;b1;");
        x.thumbs(1);
        x.type('d');
        x.gate();
        x.clear();
        x.tells(9, 9);
        x.forget();
        x.tells(9, 7);
        x.keep(0);
        x.rate(5, 0);
        x.order(0);
        x.can(1);
        x.ask();
        x.life(0, 0);
        x.carry(1, 0);
        x.odds(1, 1, 1);
        check.due("may be UNDONE", 1, x.now(4));
        check.due("undo()", 0, x.undo());
        check.due("undo() again", LychWeights.STATE, x.undo());
        check.due("THUMB", 0, x.now(1));
        check.due("TOLD stays", 1, x.count(5));
        check.due("THE TRACE stays", 100001, x.trace());
        check.due("the IMAGE stays", 0, x.back(0));
        check.due("THUMB", 1, x.now(1));
    }

    private static void undoingNothingRefused() {
        check.promise(15, "that was not refused");
        LychWeights x = Check.read("d25;l9 4 0;l2 1;r9;");
        x.lays(0);
        check.due("lays(0)", LychWeights.STATE, x.lays(0));
        check.due("lays(2)", LychWeights.BAD, x.lays(2));
        check.due("thumbs(10)", LychWeights.NO, x.thumbs(10));
        check.due("adorns(0, 10)", LychWeights.BAD, x.adorns(0, 10));
        check.due("adorns(2, 0)", LychWeights.BAD, x.adorns(2, 0));
        check.due("sins(0, 0)", LychWeights.STATE, x.sins(0, 0));
        check.due("sins(1, 1)", LychWeights.BAD, x.sins(1, 1));
        check.due("oils(10)", LychWeights.BAD, x.oils(10));
        check.due("year()", LychWeights.STATE, x.year());
        check.due("may be UNDONE", 1, x.now(4));
        check.due("undo() of lays()", 0, x.undo());
        check.due("none is CHALKED", 0, x.now(3));
        check.due("undo()", LychWeights.STATE, x.undo());
        check.due("may be UNDONE", 0, x.now(4));
        check.due("lays(0) once more", 9, x.lays(0));
    }

    private static void undoingForGood() {
        check.promise(15, "what is UNDONE is not known any more");
        LychWeights x = new LychWeights();
        x.thumbs(1);
        x.thumbs(2);
        x.thumbs(3);
        check.due("undo()", 2, x.undo());
        check.due("undo()", 1, x.undo());
        x.thumbs(7);
        check.due("undo()", 1, x.undo());
        check.due("THUMB", 1, x.now(1));
        check.due("undo()", 0, x.undo());
        check.due("THUMB", 0, x.now(1));
        check.due("undo()", LychWeights.STATE, x.undo());
    }

    private static void undoingAMixtureOfMany() {
        check.promise(15, "UNDONE: the latest first, all of NOW each time");
        LychWeights x = Check.read("d25;d13;l20 4;l9 0 1;l3 3;r3;");
        List<String> scenes = new ArrayList<>();
        for (int i = 0; i < 14; i++) {
            scenes.add(nowOfThree(x));
            change(x, i);
        }
        for (int i = 13; i >= 4; i--) {
            check.due("undo()", i - 4, x.undo());
            String got = nowOfThree(x);
            check.due("NOW: " + got + ", due is " + scenes.get(i), 1, got.equals(scenes.get(i)) ? 1 : 0);
        }
        check.due("undo()", LychWeights.STATE, x.undo());
    }

    private static String nowOfThree(LychWeights x) {
        StringBuilder s = new StringBuilder();
        for (int what = 0; what < 4; what++) {
            s.append(' ').append(x.now(what));
        }
        for (int l = 0; l < 3; l++) {
            s.append(" / ").append(x.dead(l, 1)).append(' ').append(x.dead(l, 2)).append(' ').append(x.dead(l, 5));
        }
        return s.toString();
    }

    /** Fourteen changes, none of them refused, each of the six kinds among the last ten. */
    private static void change(LychWeights x, int i) {
        switch (i) {
            case 0: case 9: x.thumbs(i - 6); break;
            case 1: case 6: case 11: x.lays((i + 4) / 5 - 1); break;
            case 2: case 10: x.adorns(2, i - 2); break;
            case 3: case 8: x.sins(2, i == 3 ? 0 : 1); break;
            case 4: case 12: x.oils(i / 2 - 1); break;
            default: x.year(); break;
        }
    }
}
