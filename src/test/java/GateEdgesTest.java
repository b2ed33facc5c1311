/** Promises 1, 5 to 8, 27: each sentence about what is told and asked that names an edge has a test of its own. */
public final class GateEdgesTest {
    private static final int[] BEYOND_ALL = {Integer.MIN_VALUE, -64, -32, -2, -1, 8, 9, 31, 32, 33, 64, 256, Integer.MAX_VALUE};
    private static final String SIX_DEEDS = "d0;d40;d21;d22;d23;d24;";
    private static final Check check = new Check();

    public static void main(String[] args) {
        newObjectHasNothing();
        newObjectAnswersWhatIsAsked();
        newObjectsAreApart();
        deedsAreThoseTold();
        deedsAreAskedBy0And1();
        whoDidItIsNoneToAll();
        deadAreThoseTold();
        deadAreAskedBy0To7();
        boxStaysAsTold();
        soulsAreWeightsTogether();
        loadIs0AtLeast();
        loadAtMost();
        chalkedIsNoneBefore();
        readsAreOfThoseChalkedToo();
        readsChangeNothing();
        errorIsNoBefore();
        errorsAtMost();
        bearersAreThoseTold();
        nowIsAskedBy0To4();
        nowAtLeastAndAtMost();
        countIsAskedBy0To6();
        countsAtLeastAndAtMost();
        countsAreAsTold();
        check.end();
    }

    private static void newObjectHasNothing() {
        check.promise(1, "no DEEDS, DEAD, BEARERS");
        LychWeights x = new LychWeights();
        for (int i = -1; i <= 6; i++) {
            check.due("deed(" + i + ", 0)", LychWeights.NO, x.deed(i, 0));
            check.due("deed(" + i + ", 1)", LychWeights.NO, x.deed(i, 1));
            for (int what = 0; what < 8; what++) {
                check.due("dead(" + i + ", " + what + ")", LychWeights.NO, x.dead(i, what));
            }
            check.due("bearer(" + i + ")", LychWeights.BAD, x.bearer(i));
            check.due("lays(" + i + ")", LychWeights.BAD, x.lays(i));
            check.due("adorns(" + i + ", 0)", LychWeights.BAD, x.adorns(i, 0));
            check.due("sins(" + i + ", 0)", LychWeights.BAD, x.sins(i, 0));
            check.due("life(" + i + ", 0)", LychWeights.BAD, x.life(i, 0));
            for (int kind = 0; kind < 6; kind++) {
                check.due("rate(" + kind + ", " + i + ")", LychWeights.NO, x.rate(kind, i));
            }
        }
        check.due("trace()", 0, x.trace());
    }

    private static void newObjectAnswersWhatIsAsked() {
        check.promise(1, "as told: PIN 80, RUST 2, THE NEEDLE 0, THUMB 0, the rest empty");
        LychWeights x = new LychWeights();
        int[] counts = {0, 0, 0, 80, 2, 0, 0};
        for (int what = 0; what < counts.length; what++) {
            check.due("count(" + what + ")", counts[what], x.count(what));
        }
        int[] nows = {0, 0, 2, 0, 0};
        for (int what = 0; what < nows.length; what++) {
            check.due("now(" + what + ")", nows[what], x.now(what));
        }
        check.due("clear()", 0, x.clear());
        check.due("forget()", 0, x.forget());
        check.due("undo()", LychWeights.STATE, x.undo());
        check.due("back(0)", LychWeights.STATE, x.back(0));
        check.due("back(1)", LychWeights.STATE, x.back(1));
        check.due("order(-1)", 0, x.order(-1));
        check.due("can(0)", 1, x.can(0));
        check.due("ask()", LychWeights.NONE, x.ask());
        check.due("carry(1, 0)", LychWeights.NONE, x.carry(1, 0));
        check.due("odds(5, 0, 0)", 1, x.odds(5, 0, 0));
        check.due("trace()", 0, x.trace());
        check.due("keep(0)", 0, x.keep(0));
        check.due("gate()", 0, x.gate());
    }

    private static void newObjectsAreApart() {
        check.promise(1, "a new object has nothing of another");
        LychWeights other = Check.read("d21;l1 0 0;b5;p10;r9;");
        other.lays(0);
        other.tells(1, 1);
        other.keep(0);
        other.rate(0, 0);
        other.type('d');
        LychWeights x = new LychWeights();
        check.due("count(0)", 0, x.count(0));
        check.due("count(3)", 80, x.count(3));
        check.due("count(5)", 0, x.count(5));
        check.due("count(6)", 0, x.count(6));
        check.due("now(2)", 2, x.now(2));
        check.due("now(4)", 0, x.now(4));
        check.due("trace()", 0, x.trace());
        check.due("back(0)", LychWeights.STATE, x.back(0));
        x.thumbs(7);
        check.due("THUMB of the other", 0, other.now(1));
    }

    private static void deedsAreThoseTold() {
        check.promise(5, "DEEDS 0 .. (6 at most); NO: BAD");
        String[] texts = {"", "d21;", SIX_DEEDS};
        int[] deeds = {0, 1, 6};
        for (int i = 0; i < texts.length; i++) {
            LychWeights x = Check.read(texts[i]);
            for (int d = 0; d < deeds[i]; d++) {
                check.due("who did " + d, 0, x.deed(d, 1));
            }
            for (int what = 0; what < 2; what++) {
                check.due("the first that there is not", LychWeights.NO, x.deed(deeds[i], what));
                for (int d : BEYOND_ALL) {
                    check.due("deed(" + d + ", " + what + ")", LychWeights.NO, x.deed(d, what));
                }
            }
        }
        LychWeights x = Check.read(SIX_DEEDS);
        int[] weights = {-20, 20, 1, 2, 3, 4};
        for (int d = 0; d < 6; d++) {
            check.due("WEIGHT of " + d, weights[d], x.deed(d, 0));
        }
    }

    private static void deedsAreAskedBy0And1() {
        check.promise(5, "what = 0, 1; NO: BAD");
        LychWeights x = Check.read("d21;l1 0 0;");
        check.due("deed(0, 0)", 1, x.deed(0, 0));
        check.due("deed(0, 1)", 1, x.deed(0, 1));
        check.due("deed(0, 2)", LychWeights.NO, x.deed(0, 2));
        for (int what : BEYOND_ALL) {
            check.due("deed(0, " + what + ")", LychWeights.NO, x.deed(0, what));
            check.due("deed(1, " + what + ")", LychWeights.NO, x.deed(1, what));
        }
    }

    private static void whoDidItIsNoneToAll() {
        check.promise(5, "who did it (1, bits)");
        LychWeights x = Check.read("d21;d22;" + "l1 0;".repeat(6));
        int bits = 0;
        for (int l = 0; l < 6; l++) {
            check.due("who did it", bits, x.deed(1, 1));
            x.sins(l, 1);
            bits += 1 << l;
        }
        check.due("all did it", 63, x.deed(1, 1));
        check.due("none did it", 0, x.deed(0, 1));
        x.undo();
        check.due("but the last, UNDONE", 31, x.deed(1, 1));
    }

    private static void deadAreThoseTold() {
        check.promise(6, "THE DEAD 0 .. (6 at most); NO: BAD");
        String[] texts = {"", "l1 0;", "l1 0;l2 0;l3 0;l4 0;l5 0;l6 0;"};
        int[] dead = {0, 1, 6};
        for (int i = 0; i < texts.length; i++) {
            LychWeights x = Check.read(texts[i]);
            for (int l = 0; l < dead[i]; l++) {
                check.due("BOX of " + l, l + 1, x.dead(l, 0));
            }
            for (int what = 0; what < 8; what++) {
                check.due("the first that there is not", LychWeights.NO, x.dead(dead[i], what));
                for (int l : BEYOND_ALL) {
                    check.due("dead(" + l + ", " + what + ")", LychWeights.NO, x.dead(l, what));
                }
            }
        }
    }

    private static void deadAreAskedBy0To7() {
        check.promise(6, "what = 0 .. 7; NO: BAD");
        LychWeights x = Check.read("d23;l12 4 0;");
        x.lays(0);
        int[] due = {12, 4, 1, 3, 19, 17, 17, -2};
        for (int what = 0; what < due.length; what++) {
            check.due("dead(0, " + what + ")", due[what], x.dead(0, what));
        }
        for (int what : BEYOND_ALL) {
            check.due("dead(0, " + what + ")", LychWeights.NO, x.dead(0, what));
            check.due("dead(1, " + what + ")", LychWeights.NO, x.dead(1, what));
        }
    }

    private static void boxStaysAsTold() {
        check.promise(6, "BOX, FLOWERS, DEEDS: as told, and as they are now");
        LychWeights x = Check.read("d21;d22;l40 9 1;l1 0;");
        check.due("BOX", 40, x.dead(0, 0));
        check.due("BOX", 1, x.dead(1, 0));
        check.due("FLOWERS", 9, x.dead(0, 1));
        check.due("FLOWERS", 0, x.dead(1, 1));
        check.due("DEEDS", 2, x.dead(0, 2));
        check.due("DEEDS", 0, x.dead(1, 2));
        x.adorns(0, 0);
        x.adorns(1, 9);
        x.sins(0, 0);
        check.due("FLOWERS", 0, x.dead(0, 1));
        check.due("FLOWERS", 9, x.dead(1, 1));
        check.due("DEEDS", 3, x.dead(0, 2));
        check.due("BOX", 40, x.dead(0, 0));
        check.due("BOX", 1, x.dead(1, 0));
    }

    private static void soulsAreWeightsTogether() {
        check.promise(6, "SOUL: WEIGHTS of his DEEDS together (-120 .. 120)");
        check.due("none", 0, Check.read("d0;d40;l1 0;").dead(0, 3));
        check.due("all together 0", 0, Check.read("d0;d40;l1 0 0 1;").dead(0, 3));
        check.due("least", -120, Check.read("d0;".repeat(6) + "l1 0 0 1 2 3 4 5;").dead(0, 3));
        check.due("greatest", 120, Check.read("d40;".repeat(6) + "l1 0 0 1 2 3 4 5;").dead(0, 3));
        check.due("the last alone", 4, Check.read(SIX_DEEDS + "l40 9 5;").dead(0, 3));
        check.due("the first alone", -20, Check.read(SIX_DEEDS + "l40 9 0;").dead(0, 3));
    }

    private static void loadIs0AtLeast() {
        check.promise(6, "LOAD: BOX, FLOWERS, SOUL and THUMB together, 0 at least");
        LychWeights x = Check.read("l3 2;");
        for (int thumb = -9; thumb <= 9; thumb++) {
            x.thumbs(thumb);
            check.due("LOAD by a THUMB of " + thumb, thumb < -5 ? 0 : 5 + thumb, x.dead(0, 4));
        }
        check.due("SOUL -2", 0, Check.read("d18;l1 0 0;").dead(0, 4));
        check.due("SOUL -1", 0, Check.read("d19;l1 0 0;").dead(0, 4));
        check.due("SOUL 0", 1, Check.read("d20;l1 0 0;").dead(0, 4));
        x = Check.read("d0;l5 0 0;");
        check.due("15 below 0", 0, x.dead(0, 4));
        x.thumbs(9);
        check.due("6 below 0: THUMB is no more than what is below 0", 0, x.dead(0, 4));
        x.adorns(0, 7);
        check.due("1 above 0", 1, x.dead(0, 4));
        check.due("the least of all", 0, Check.read("d0;".repeat(6) + "l1 0 0 1 2 3 4 5;").dead(0, 4));
    }

    private static void loadAtMost() {
        check.promise(6, "LOAD: not held by PIN");
        LychWeights x = Check.read("d40;".repeat(6) + "l40 9 0 1 2 3 4 5;p10;");
        check.due("LOAD", 169, x.dead(0, 4));
        x.thumbs(9);
        check.due("LOAD", 178, x.dead(0, 4));
        check.due("READS", 10, x.dead(0, 6));
        x.thumbs(-9);
        check.due("LOAD", 160, x.dead(0, 4));
    }

    private static void chalkedIsNoneBefore() {
        check.promise(6, "what is CHALKED (NONE: nothing)");
        LychWeights x = Check.read("l1 0;l30 0;");
        check.due("nothing", LychWeights.NONE, x.dead(0, 5));
        check.due("nothing", LychWeights.NONE, x.dead(1, 5));
        check.due("lays(0)", 0, x.lays(0));
        check.due("a CHALKED 0", 0, x.dead(0, 5));
        check.due("nothing for the other", LychWeights.NONE, x.dead(1, 5));
        x.lays(1);
        check.due("CHALKED", 28, x.dead(1, 5));
        check.due("CHALKED till then", 0, x.dead(0, 5));
        x.undo();
        check.due("nothing again", LychWeights.NONE, x.dead(1, 5));
    }

    private static void readsAreOfThoseChalkedToo() {
        check.promise(6, "READS: were he LAID (though he is CHALKED)");
        LychWeights x = Check.read("l20 0;r5;");
        check.due("READS", 15, x.dead(0, 6));
        check.due("lays(0)", 15, x.lays(0));
        check.due("READS", 15, x.dead(0, 6));
        x.thumbs(3);
        check.due("READS by a THUMB", 18, x.dead(0, 6));
        x.adorns(0, 2);
        check.due("READS by FLOWERS", 20, x.dead(0, 6));
        x.oils(0);
        check.due("READS by RUST", 25, x.dead(0, 6));
        check.due("what is CHALKED stays", 15, x.dead(0, 5));
    }

    private static void readsChangeNothing() {
        check.promise(6, "(As things are NOW; nothing is changed)");
        Twins rich = new Twins(check, "a scene", RefusedTest::rich);
        int[] due = {12, 5, 1, 10, 25, LychWeights.NONE, 22, LychWeights.NO};
        for (int what = 0; what < due.length; what++) {
            int asked = what;
            rich.changesNothing("dead(0, " + what + ")", due[what], x -> x.dead(0, asked));
        }
        rich.changesNothing("dead(1, 7)", -1, x -> x.dead(1, 7));
    }

    private static void errorIsNoBefore() {
        check.promise(6, "ERROR (NO: he is not CHALKED)");
        LychWeights x = Check.read("l10 1;l20 2;");
        check.due("not CHALKED", LychWeights.NO, x.dead(0, 7));
        x.thumbs(4);
        x.lays(0);
        check.due("CHALKED 13, due 11", 2, x.dead(0, 7));
        check.due("the other is not CHALKED", LychWeights.NO, x.dead(1, 7));
        x.undo();
        check.due("CHALKED no more", LychWeights.NO, x.dead(0, 7));
        x.thumbs(2);
        x.lays(0);
        check.due("CHALKED as it is due", 0, x.dead(0, 7));
    }

    private static void errorsAtMost() {
        check.promise(6, "ERROR: less BOX, FLOWERS and SOUL, be they below 0, without THUMB");
        LychWeights x = Check.read("d0;".repeat(6) + "l1 0 0 1 2 3 4 5;");
        x.lays(0);
        check.due("CHALKED 0, due -119", 119, x.dead(0, 7));
        x.thumbs(9);
        check.due("THUMB is no matter", 119, x.dead(0, 7));
        x.adorns(0, 9);
        check.due("FLOWERS are", 110, x.dead(0, 7));
        x = Check.read("d40;".repeat(6) + "l40 9 0 1 2 3 4 5;p10;");
        x.lays(0);
        check.due("CHALKED 10, due 169", -159, x.dead(0, 7));
    }

    private static void bearersAreThoseTold() {
        check.promise(7, "BEARERS 0 .. (6 at most); BAD");
        String[] texts = {"", "b1;", "b1;b2;b3;b4;b5;b60;"};
        int[] bearers = {0, 1, 6};
        for (int i = 0; i < texts.length; i++) {
            LychWeights x = Check.read(texts[i]);
            for (int b = 0; b < bearers[i]; b++) {
                check.due("STRENGTH of " + b, b == 5 ? 60 : b + 1, x.bearer(b));
            }
            check.due("the first that there is not", LychWeights.BAD, x.bearer(bearers[i]));
            for (int b : BEYOND_ALL) {
                check.due("bearer(" + b + ")", LychWeights.BAD, x.bearer(b));
            }
        }
    }

    private static void nowIsAskedBy0To4() {
        check.promise(8, "what = 0 .. 4; NO: BAD");
        LychWeights x = Check.read("l20 0;r3;");
        x.lays(0);
        x.thumbs(-4);
        int[] due = {3, -4, 3, 1, 2};
        for (int what = 0; what < due.length; what++) {
            check.due("now(" + what + ")", due[what], x.now(what));
        }
        check.due("now(5)", LychWeights.NO, x.now(5));
        for (int what : BEYOND_ALL) {
            check.due("now(" + what + ")", LychWeights.NO, x.now(what));
        }
    }

    private static void nowAtLeastAndAtMost() {
        check.promise(8, "THE NEEDLE, THUMB, RUST, CHALKED, UNDONE at their least and their greatest");
        LychWeights x = Check.read("l40 0;".repeat(6) + "r9;");
        for (int l = 0; l < 6; l++) {
            check.due("who is CHALKED", (1 << l) - 1, x.now(3));
            x.lays(l);
        }
        check.due("all are CHALKED", 63, x.now(3));
        check.due("THE NEEDLE", 9, x.now(0));
        check.due("RUST", 9, x.now(2));
        x.thumbs(9);
        check.due("THUMB", 9, x.now(1));
        x.thumbs(-9);
        check.due("THUMB", -9, x.now(1));
        x.oils(0);
        check.due("RUST", 0, x.now(2));
        check.due("THE NEEDLE is not moved by it", 9, x.now(0));
        check.due("may be UNDONE", 9, x.now(4));
        x.oils(0);
        check.due("may be UNDONE", 10, x.now(4));
        x.oils(0);
        check.due("may be UNDONE, 10 at most", 10, x.now(4));
    }

    private static void countIsAskedBy0To6() {
        check.promise(27, "what = 0 .. 6; BAD");
        LychWeights x = Check.read("d1;l1 0;l1 0;b1;b1;b1;p11;r8;");
        x.tells(1, 1);
        Check.type(x, "dddd");
        int[] due = {1, 2, 3, 11, 8, 1, 4};
        for (int what = 0; what < due.length; what++) {
            check.due("count(" + what + ")", due[what], x.count(what));
        }
        check.due("count(7)", LychWeights.BAD, x.count(7));
        for (int what : BEYOND_ALL) {
            check.due("count(" + what + ")", LychWeights.BAD, x.count(what));
        }
    }

    private static void countsAtLeastAndAtMost() {
        check.promise(27, "each at its least and its greatest");
        LychWeights x = Check.read("d1;".repeat(6) + "l1 0;".repeat(6) + "b1;".repeat(6) + "p99;r9;");
        for (int n = 0; n < 7; n++) {
            x.tells(1, 1);
        }
        Check.type(x, " ".repeat(150));
        x.type(' ');
        int[] most = {6, 6, 6, 99, 9, 6, 150};
        for (int what = 0; what < most.length; what++) {
            check.due("count(" + what + ")", most[what], x.count(what));
        }
        x.clear();
        Check.type(x, "p10;r0;");
        x.gate();
        int[] least = {0, 0, 0, 10, 0, 0, 0};
        for (int what = 0; what < least.length; what++) {
            check.due("count(" + what + ")", least[what], x.count(what));
        }
    }

    private static void countsAreAsTold() {
        check.promise(27, "RUST as told, whatever it is now");
        LychWeights x = Check.read("r5;");
        x.oils(0);
        check.due("RUST as told", 5, x.count(4));
        x.year();
        x.keep(0);
        x.undo();
        x.back(0);
        check.due("RUST now", 1, x.now(2));
        check.due("RUST as told", 5, x.count(4));
    }
}
