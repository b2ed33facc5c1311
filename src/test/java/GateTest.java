/** Promises 1 to 8 and 27: a new object, THE TEXT, what is told. */
public final class GateTest {
    private static final Check check = new Check();

    public static void main(String[] args) {
        newObject();
        typing();
        clearing();
        reading();
        faultsOfTokens();
        faultsOfItems();
        faultsOfDeeds();
        faultsOfEnds();
        readingAnew();
        readingAgainAndAgain();
        faultChangesNothing();
        deeds();
        dead();
        needlesAndLoads();
        bearers();
        nows();
        counts();
        check.end();
    }

    private static void newObject() {
        check.promise(1, "a new object");
        LychWeights x = new LychWeights();
        int[] counts = {0, 0, 0, 80, 2, 0, 0};
        for (int what = 0; what < counts.length; what++) {
            check.due("count(" + what + ")", counts[what], x.count(what));
        }
        int[] nows = {0, 0, 2, 0, 0};
        for (int what = 0; what < nows.length; what++) {
            check.due("now(" + what + ")", nows[what], x.now(what));
        }
        check.due("trace()", 0, x.trace());
        check.due("deed(0, 0)", LychWeights.NO, x.deed(0, 0));
        check.due("dead(0, 0)", LychWeights.NO, x.dead(0, 0));
        check.due("bearer(0)", LychWeights.BAD, x.bearer(0));
        check.due("undo()", LychWeights.STATE, x.undo());
        check.due("back(0)", LychWeights.STATE, x.back(0));
        check.due("back(1)", LychWeights.STATE, x.back(1));
        check.due("lays(0)", LychWeights.BAD, x.lays(0));
        check.due("sins(0, 0)", LychWeights.BAD, x.sins(0, 0));
        check.due("adorns(0, 0)", LychWeights.BAD, x.adorns(0, 0));
        check.due("life(0, 0)", LychWeights.BAD, x.life(0, 0));
        check.due("rate(0, 0)", LychWeights.NO, x.rate(0, 0));
    }

    private static void typing() {
        check.promise(2, "type");
        LychWeights x = new LychWeights();
        check.due("type(0)", 1, x.type(0));
        check.due("type(255)", 2, x.type(255));
        check.due("type(-1)", LychWeights.BAD, x.type(-1));
        check.due("type(256)", LychWeights.BAD, x.type(256));
        check.due("type(MIN)", LychWeights.BAD, x.type(Integer.MIN_VALUE));
        check.due("type(MAX)", LychWeights.BAD, x.type(Integer.MAX_VALUE));
        check.due("letters", 2, x.count(6));
        for (int n = 3; n <= 150; n++) {
            check.due("type(32)", n, x.type(32));
        }
        check.due("the 151st", LychWeights.FULL, x.type(32));
        check.due("BAD is ahead of FULL", LychWeights.BAD, x.type(256));
        check.due("letters", 150, x.count(6));
    }

    private static void clearing() {
        check.promise(3, "clear");
        LychWeights x = new LychWeights();
        check.due("clear()", 0, x.clear());
        Check.type(x, "d7");
        check.due("clear()", 2, x.clear());
        check.due("clear()", 0, x.clear());
        check.due("letters", 0, x.count(6));
        check.due("type", 1, x.type(' '));
        x.clear();
        for (int n = 0; n < 150; n++) {
            x.type('d');
        }
        check.due("clear() of a full one", 150, x.clear());
        Check.type(x, "d7;");
        check.due("gate() reads what came behind", 1, x.gate());
    }

    private static void reading() {
        check.promise(4, "gate");
        gives("", 0);
        gives("   ", 0);
        gives("d0;", 1);
        gives("d40;", 1);
        gives("  d  40  ;  ", 1);
        gives("l1 0;", 1);
        gives("l40 9;", 1);
        gives("b1;b60;", 2);
        gives("p10;", 1);
        gives("p99;r0;", 2);
        gives("r9;p10;", 2);
        gives("d1;l1 0 0;d2;l1 0 1 0;", 4);
        gives("d1;d1;d1;d1;d1;d1;l1 0 5 4 3 2 1 0;", 7);
        gives("d1;d1;d1;d1;d1;d1;l1 0;l1 0;l1 0;l1 0;l1 0;l1 0;b1;b1;b1;b1;b1;b1;p10;r1;", 20);
        LychWeights x = Check.read("d3;");
        check.due("THE TEXT is empty behind it", 0, x.count(6));
        check.due("nothing is told then", 0, x.gate());
        check.due("no DEEDS", 0, x.count(0));
    }

    private static void faultsOfTokens() {
        check.promise(4, "gate: FAULT of tokens");
        fault("x", 0);
        fault("D1;", 0);
        fault("d1;" + (char) 9, 3);
        fault("d1;" + (char) 0, 3);
        fault("d1;" + (char) 1, 3);
        fault("d1;" + (char) 2, 3);
        fault("d1" + (char) 255 + ";", 2);
        fault("d100;", 1);
        fault("d05;", 1);
        fault("d00;", 1);
        fault("d 007;", 2);
        fault("d99999999999999999999;", 1);
        fault("d4294967297;", 1);
        fault("  d1;  d1;  100", 12);
        fault("5;", 0);
        fault(";", 0);
        fault("d1;;", 3);
    }

    private static void faultsOfItems() {
        check.promise(4, "gate: FAULT of items");
        fault("d;", 1);
        fault("dd1;", 1);
        fault("d41;", 1);
        fault("d99;", 1);
        fault("d1 2;", 3);
        fault("d1 d2;", 3);
        fault("d1;d1;d1;d1;d1;d1;d1;", 18);
        fault("b0;", 1);
        fault("b61;", 1);
        fault("b;", 1);
        fault("b1 1;", 3);
        fault("b1;b1;b1;b1;b1;b1;b1;", 18);
        fault("p9;", 1);
        fault("p0;", 1);
        fault("p100;", 1);
        fault("p10;p10;", 4);
        fault("p 10 ; p", 7);
        fault("p10 10;", 4);
        fault("r10;", 1);
        fault("r1;r1;", 3);
        fault("r1;d5;r1;", 6);
        fault("r1 1;", 3);
        fault("l;", 1);
        fault("l0 0;", 1);
        fault("l41 0;", 1);
        fault("l1;", 2);
        fault("l1 10;", 3);
        fault("l1 d;", 3);
        fault("l1 0;l1 0;l1 0;l1 0;l1 0;l1 0;l1 0;", 30);
    }

    private static void faultsOfDeeds() {
        check.promise(4, "gate: FAULT of DEEDS done");
        fault("l1 0 0;", 5);
        fault("l1 0 0;d5;", 5);
        fault("d5;l1 0 1;", 8);
        fault("d5;d5;l1 0 1 2;", 13);
        fault("d5;l1 0 0 0;", 10);
        fault("d5;d5;l1 0 1 0 1;", 15);
        fault("d5;l1 0 00;", 8);
        fault("d5;l1 0 100;", 8);
        fault("d1;d1;d1;d1;d1;d1;l1 0 5 4 3 2 1 0 5;", 35);
        fault("d1;d1;d1;d1;d1;d1;l1 0 5 4 3 2 1 0 9;", 35);
    }

    private static void faultsOfEnds() {
        check.promise(4, "gate: FAULT, the text's length");
        fault("d", 1);
        fault("d5", 2);
        fault("d5  ", 4);
        fault("  d", 3);
        fault("l", 1);
        fault("l1", 2);
        fault("l1 ", 3);
        fault("l1 0", 4);
        fault("d5;l1 0 0", 9);
        fault("d5;l1 0 0 ", 10);
        fault("b", 1);
        fault("p", 1);
        fault("p10", 3);
        fault("r", 1);
        fault("r5 ", 3);
        StringBuilder full = new StringBuilder("b5");
        while (full.length() < 150) {
            full.append(' ');
        }
        fault(full.toString(), 150);
        full.setCharAt(149, ';');
        gives(full.toString(), 1);
    }

    private static void readingAnew() {
        check.promise(4, "gate: all anew");
        LychWeights x = Check.read("d30;d10;l7 3 0;l9 0;b5;p33;r4;");
        x.thumbs(4);
        x.oils(1);
        x.lays(1);
        x.sins(0, 1);
        x.adorns(0, 8);
        x.tells(5, 5);
        x.keep(0);
        x.keep(1);
        x.thumbs(6);
        check.due("may be UNDONE", 6, x.now(4));
        x.rate(5, 0);
        long trace = x.trace();
        Check.type(x, " l2 1;d25;d26;l3 4 1;");
        check.due("gate()", 4, x.gate());
        int[] counts = {2, 2, 0, 80, 2, 0, 0};
        for (int what = 0; what < counts.length; what++) {
            check.due("count(" + what + ")", counts[what], x.count(what));
        }
        int[] nows = {0, 0, 2, 0, 0};
        for (int what = 0; what < nows.length; what++) {
            check.due("now(" + what + ")", nows[what], x.now(what));
        }
        check.due("BOX", 2, x.dead(0, 0));
        check.due("FLOWERS", 1, x.dead(0, 1));
        check.due("DEEDS", 0, x.dead(0, 2));
        check.due("DEEDS", 2, x.dead(1, 2));
        check.due("CHALKED", LychWeights.NONE, x.dead(1, 5));
        check.due("undo()", LychWeights.STATE, x.undo());
        check.due("back(0)", LychWeights.STATE, x.back(0));
        check.due("back(1)", LychWeights.STATE, x.back(1));
        check.due("trace() goes on", trace, x.trace());
        check.due("no BEARER", LychWeights.BAD, x.bearer(0));
        check.due("nothing TOLD", 0, x.forget());
    }

    private static void readingAgainAndAgain() {
        check.promise(4, "gate: all anew, each time");
        LychWeights x = new LychWeights();
        String[] texts = {"d1;d2;l1 0 0;b5;b6;p20;r1;", "d1;l1 0;b0;", "l3 0;l4 0;b7;", "p", "d3;r9;p50;p50;", "d9;l2 0;"};
        int[] due = {7, -10 - 9, 3, -10 - 1, -10 - 10, 2};
        int[][] counts = {{2, 1, 2, 20, 1}, {2, 1, 2, 20, 1}, {0, 2, 1, 80, 2}, {0, 2, 1, 80, 2}, {0, 2, 1, 80, 2},
            {1, 1, 0, 80, 2}};
        for (int i = 0; i < texts.length; i++) {
            x.clear();
            Check.type(x, texts[i]);
            check.due("gate() of '" + texts[i] + "'", due[i], x.gate());
            for (int what = 0; what < 5; what++) {
                check.due("count(" + what + ") behind '" + texts[i] + "'", counts[i][what], x.count(what));
            }
        }
        check.due("who did it", 0, x.deed(0, 1));
        check.due("THE NEEDLE", 0, x.now(0));
    }

    private static void faultChangesNothing() {
        check.promise(4, "gate: a FAULT changes nothing");
        LychWeights x = Check.read("d30;d10;l7 3 0;l9 0;b5;p33;r4;");
        x.thumbs(4);
        x.lays(1);
        x.tells(5, 5);
        x.keep(1);
        Check.type(x, "d1;l2 2 0;b8;p10;r9;b0;");
        check.due("gate()", -10 - 21, x.gate());
        check.due("gate() again", -10 - 21, x.gate());
        int[] counts = {2, 2, 1, 33, 4, 1, 23};
        for (int what = 0; what < counts.length; what++) {
            check.due("count(" + what + ")", counts[what], x.count(what));
        }
        check.due("THE NEEDLE", 4, x.now(0));
        check.due("RUST", 4, x.now(2));
        check.due("CHALKED", 2, x.now(3));
        check.due("may be UNDONE", 2, x.now(4));
        check.due("WEIGHT", 10, x.deed(0, 0));
        check.due("BOX", 7, x.dead(0, 0));
        check.due("FLOWERS", 3, x.dead(0, 1));
        check.due("STRENGTH", 5, x.bearer(0));
        check.due("back(1)", 4, x.back(1));
        Check.type(x, ";");
        check.due("THE TEXT is as it was", -10 - 21, x.gate());
        check.due("clear()", 24, x.clear());
    }

    private static void deeds() {
        check.promise(5, "deed");
        LychWeights x = Check.read("d0;d20;d40;l1 0 2;l1 0;l1 0 0 2;");
        check.due("deed(0, 0)", -20, x.deed(0, 0));
        check.due("deed(1, 0)", 0, x.deed(1, 0));
        check.due("deed(2, 0)", 20, x.deed(2, 0));
        check.due("deed(0, 1)", 4, x.deed(0, 1));
        check.due("deed(1, 1)", 0, x.deed(1, 1));
        check.due("deed(2, 1)", 5, x.deed(2, 1));
        x.sins(1, 2);
        check.due("deed(2, 1)", 7, x.deed(2, 1));
        check.due("deed(3, 0)", LychWeights.NO, x.deed(3, 0));
        check.due("deed(-1, 0)", LychWeights.NO, x.deed(-1, 0));
        check.due("deed(0, 2)", LychWeights.NO, x.deed(0, 2));
        check.due("deed(0, -1)", LychWeights.NO, x.deed(0, -1));
        check.due("deed(MAX, MIN)", LychWeights.NO, x.deed(Integer.MAX_VALUE, Integer.MIN_VALUE));
    }

    private static void dead() {
        check.promise(6, "dead");
        LychWeights x = Check.read("d25;d0;l12 3 0;l4 2 1 0;");
        int[][] due = {{12, 3, 1, 5, 20, -9, 18, -1000000}, {4, 2, 3, -15, 0, -9, 0, -1000000}};
        for (int l = 0; l < 2; l++) {
            for (int what = 0; what < 8; what++) {
                check.due("dead(" + l + ", " + what + ")", due[l][what], x.dead(l, what));
            }
        }
        x.lays(1);
        check.due("what is CHALKED, be it 0", 0, x.dead(1, 5));
        check.due("ERROR is to all of it, below 0 too", 9, x.dead(1, 7));
        x.adorns(1, 9);
        check.due("ERROR is as things are now", 2, x.dead(1, 7));
        x.thumbs(-4);
        check.due("LOAD with THUMB", 16, x.dead(0, 4));
        check.due("ERROR without THUMB", 2, x.dead(1, 7));
        x.lays(0);
        check.due("CHALKED", 14, x.dead(0, 5));
        check.due("ERROR", -6, x.dead(0, 7));
        check.due("SOUL", 5, x.dead(0, 3));
        x.thumbs(3);
        check.due("READS though CHALKED", 21, x.dead(0, 6));
        check.due("nothing is changed by it", 14, x.dead(0, 5));
        check.due("dead(2, 0)", LychWeights.NO, x.dead(2, 0));
        check.due("dead(-1, 0)", LychWeights.NO, x.dead(-1, 0));
        check.due("dead(0, 8)", LychWeights.NO, x.dead(0, 8));
        check.due("dead(0, -1)", LychWeights.NO, x.dead(0, -1));
    }

    private static void needlesAndLoads() {
        check.promise(6, "dead: READS");
        LychWeights x = Check.read("l10 0;l13 0;l14 0;l5 0;l40 9;p20;r3;");
        check.due("up to LOAD less RUST", 7, x.lays(0));
        check.due("down to RUST", 3, x.now(0));
        check.due("READS from 3", 10, x.dead(1, 6));
        check.due("READS from 3: rust holds it", 3, x.dead(3, 6));
        check.due("PIN at most", 20, x.dead(4, 6));
        x.oils(9);
        check.due("lays(4)", 20, x.lays(4));
        check.due("down to 9", 9, x.now(0));
        check.due("rust holds it at 9", 9, x.dead(2, 6));
        x.oils(1);
        check.due("down to LOAD and RUST", 6, x.dead(3, 6));
        check.due("up", 12, x.dead(1, 6));
        x = Check.read("l3 0;p10;r0;");
        x.thumbs(9);
        check.due("LOAD above PIN", 10, x.lays(0));
        check.due("down to 0", 0, x.now(0));
        x = Check.read("l3 2;");
        x.thumbs(-9);
        check.due("LOAD is 0 at least", 0, x.dead(0, 4));
        x.thumbs(-5);
        check.due("LOAD is 0", 0, x.dead(0, 4));
        x.thumbs(-4);
        check.due("LOAD is 1", 1, x.dead(0, 4));
    }

    private static void bearers() {
        check.promise(7, "bearer");
        LychWeights x = Check.read("b1;b60;b17;");
        check.due("bearer(0)", 1, x.bearer(0));
        check.due("bearer(1)", 60, x.bearer(1));
        check.due("bearer(2)", 17, x.bearer(2));
        check.due("bearer(3)", LychWeights.BAD, x.bearer(3));
        check.due("bearer(-1)", LychWeights.BAD, x.bearer(-1));
        check.due("bearer(MIN)", LychWeights.BAD, x.bearer(Integer.MIN_VALUE));
    }

    private static void nows() {
        check.promise(8, "now");
        LychWeights x = Check.read("l20 0;l20 0;l20 0;r5;");
        check.due("RUST as told", 5, x.now(2));
        x.lays(2);
        x.lays(0);
        x.thumbs(-3);
        x.year();
        check.due("THE NEEDLE", 5, x.now(0));
        check.due("THUMB", -3, x.now(1));
        check.due("RUST", 6, x.now(2));
        check.due("who is CHALKED", 5, x.now(3));
        check.due("how many may be UNDONE", 4, x.now(4));
        check.due("now(5)", LychWeights.NO, x.now(5));
        check.due("now(-1)", LychWeights.NO, x.now(-1));
    }

    private static void counts() {
        check.promise(27, "count");
        LychWeights x = Check.read("d1;d2;d3;l1 0;l2 0;b5;b5;b5;b5;p44;r7;");
        x.oils(1);
        x.tells(1, 1);
        x.tells(1, 1);
        Check.type(x, "d9");
        int[] counts = {3, 2, 4, 44, 7, 2, 2};
        for (int what = 0; what < counts.length; what++) {
            check.due("count(" + what + ")", counts[what], x.count(what));
        }
        check.due("count(7)", LychWeights.BAD, x.count(7));
        check.due("count(-1)", LychWeights.BAD, x.count(-1));
    }

    private static void gives(String text, int items) {
        LychWeights x = new LychWeights();
        Check.type(x, text);
        check.due("gate() of '" + text + "'", items, x.gate());
    }

    private static void fault(String text, int place) {
        LychWeights x = new LychWeights();
        Check.type(x, text);
        check.due("gate() of '" + text + "'", -10 - place, x.gate());
        check.due("letters of '" + text + "'", text.length(), x.count(6));
    }
}
