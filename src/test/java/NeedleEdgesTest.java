/** Promises 6 and 9: each sentence about THE NEEDLE that names an edge has a test of its own. */
public final class NeedleEdgesTest {
    private static final Check check = new Check();

    public static void main(String[] args) {
        upToLoadLessRust();
        downToLoadAndRust();
        elseItStays();
        withoutRustItIsExact();
        pinAtMost();
        allOfThem();
        layingLetsItDown();
        layingTakesTheThumbOff();
        layingTellsWhatItReads();
        layingOnceOnly();
        layingThoseThatThereAre();
        needleIsMovedByLayingAlone();
        check.end();
    }

    /** THE NEEDLE stands at start, and one with a LOAD is there who is not CHALKED (that of 40 is LAID ahead). */
    private static LychWeights standing(int start, int rust, int load, int pin) {
        LychWeights x = Check.read("l40 9;l" + (load - load / 5) + " " + load / 5 + ";p" + pin + ";");
        x.oils(start);
        x.lays(0);
        x.oils(rust);
        return x;
    }

    private static void moves(int start, int rust, int load, int pin, int due) {
        LychWeights x = standing(start, rust, load, pin);
        String call = "NEEDLE " + start + ", RUST " + rust + ", LOAD " + load + ", PIN " + pin;
        check.due(call + ": NEEDLE", start, x.now(0));
        check.due(call + ": LOAD", load, x.dead(1, 4));
        check.due(call + ": READS", due, x.dead(1, 6));
        check.due(call + ": lays", due, x.lays(1));
        check.due(call + ": CHALKED", due, x.dead(1, 5));
        check.due(call + ": then by LOAD 0", Math.min(due, rust), x.now(0));
    }

    private static void upToLoadLessRust() {
        check.promise(9, "up to LOAD less RUST, if it is lower than that");
        moves(0, 2, 2, 80, 0);
        moves(0, 2, 3, 80, 1);
        moves(5, 3, 7, 80, 5);
        moves(5, 3, 8, 80, 5);
        moves(5, 3, 9, 80, 6);
        moves(5, 3, 10, 80, 7);
        moves(9, 9, 18, 80, 9);
        moves(9, 9, 19, 80, 10);
        moves(0, 9, 1, 80, 0);
        moves(0, 9, 9, 80, 0);
        moves(0, 9, 10, 80, 1);
    }

    private static void downToLoadAndRust() {
        check.promise(9, "down to LOAD and RUST, if it is higher");
        moves(5, 3, 3, 80, 5);
        moves(5, 3, 2, 80, 5);
        moves(5, 3, 1, 80, 4);
        moves(9, 2, 8, 80, 9);
        moves(9, 2, 7, 80, 9);
        moves(9, 2, 6, 80, 8);
        moves(9, 8, 1, 80, 9);
        moves(9, 7, 1, 80, 8);
        moves(9, 0, 1, 80, 1);
    }

    private static void elseItStays() {
        check.promise(9, "else it stays (rust holds it)");
        for (int load = 1; load <= 16; load++) {
            moves(7, 9, load, 80, 7);
        }
        moves(7, 9, 17, 80, 8);
        for (int load = 2; load <= 8; load++) {
            moves(5, 3, load, 80, 5);
        }
    }

    private static void withoutRustItIsExact() {
        check.promise(9, "RUST 0: up to LOAD, down to LOAD");
        for (int load = 1; load <= 12; load++) {
            moves(6, 0, load, 80, load);
            moves(0, 0, load, 80, load);
        }
    }

    private static void pinAtMost() {
        check.promise(9, "PIN at most");
        moves(0, 2, 21, 20, 19);
        moves(0, 2, 22, 20, 20);
        moves(0, 2, 23, 20, 20);
        moves(0, 2, 45, 20, 20);
        moves(0, 0, 9, 10, 9);
        moves(0, 0, 10, 10, 10);
        moves(0, 0, 11, 10, 10);
        moves(9, 9, 18, 10, 9);
        moves(9, 9, 19, 10, 10);
        moves(9, 9, 20, 10, 10);
        LychWeights x = Check.read("d40;".repeat(6) + "l40 9 0 1 2 3 4 5;l40 9 0 1 2;p99;r9;");
        check.due("a LOAD of 169", 99, x.dead(0, 6));
        check.due("a LOAD of 109", 99, x.dead(1, 6));
        x.thumbs(-2);
        check.due("a LOAD of 107", 98, x.dead(1, 6));
        x.thumbs(-1);
        check.due("a LOAD of 108", 99, x.dead(1, 6));
    }

    private static void allOfThem() {
        check.promise(6, "READS by THE NEEDLE, RUST and LOAD: up, down, or held");
        for (int start = 0; start <= 9; start++) {
            for (int rust = 0; rust <= 9; rust++) {
                LychWeights x = standing(start, rust, 10, 15);
                for (int thumb = -9; thumb <= 9; thumb++) {
                    x.thumbs(thumb);
                    int due = start;
                    for (int up = start; up < 10 + thumb - rust; up++) {
                        due = Math.min(due + 1, 15);
                    }
                    for (int down = start; down > 10 + thumb + rust; down--) {
                        due--;
                    }
                    check.due("READS at " + start + ", RUST " + rust + ", LOAD " + (10 + thumb), due, x.dead(1, 6));
                }
            }
        }
    }

    private static void layingLetsItDown() {
        check.promise(9, "then THE NEEDLE moves by LOAD 0");
        int[] due = {0, 1, 2, 3, 3, 3};
        for (int load = 0; load < due.length; load++) {
            LychWeights x = Check.read("l" + (load + 3) + " 0;r3;");
            check.due("CHALKED", load, x.lays(0));
            check.due("THE NEEDLE behind a reading of " + load, due[load], x.now(0));
        }
        LychWeights x = Check.read("l40 0;r0;");
        x.lays(0);
        check.due("down to 0", 0, x.now(0));
        x = Check.read("l40 0;p10;r9;");
        x.lays(0);
        check.due("down to 9", 9, x.now(0));
    }

    private static void layingTakesTheThumbOff() {
        check.promise(9, "THUMB is 0 (it is with the LOAD, not with what comes behind)");
        LychWeights x = Check.read("l10 0;l10 0;r0;");
        x.thumbs(9);
        check.due("lays(0)", 19, x.lays(0));
        check.due("THUMB", 0, x.now(1));
        check.due("THE NEEDLE: LOAD 0 has no THUMB", 0, x.now(0));
        check.due("lays(1)", 10, x.lays(1));
        x = Check.read("l9 0;l10 0;r0;");
        x.thumbs(-9);
        check.due("LOAD 0", 0, x.lays(0));
        check.due("THUMB", 0, x.now(1));
        x.thumbs(-9);
        check.due("LOAD 1", 1, x.lays(1));
        check.due("THE NEEDLE", 0, x.now(0));
    }

    private static void layingTellsWhatItReads() {
        check.promise(9, "what is CHALKED");
        LychWeights x = Check.read("d30;d10;l10 3 0;l40 9 0;l5 0 1;l1 0;l2 0;l25 5 0 1;p40;r4;");
        int[] due = {19, 40, 4, 4, 4, 26};
        for (int l = 0; l < 6; l++) {
            check.due("READS of " + l, due[l], x.dead(l, 6));
            check.due("lays(" + l + ")", due[l], x.lays(l));
            check.due("CHALKED for " + l, due[l], x.dead(l, 5));
        }
        check.due("all are CHALKED", 63, x.now(3));
    }

    private static void layingOnceOnly() {
        check.promise(9, "STATE: he is CHALKED");
        LychWeights x = Check.read("l1 0;".repeat(6));
        for (int l = 5; l >= 0; l--) {
            check.due("lays(" + l + ")", 0, x.lays(l));
            check.due("lays(" + l + ") again", LychWeights.STATE, x.lays(l));
        }
        for (int l = 0; l < 6; l++) {
            check.due("lays(" + l + ") again", LychWeights.STATE, x.lays(l));
        }
        check.due("six may be UNDONE", 6, x.now(4));
        x.undo();
        check.due("the last one once more", 0, x.lays(0));
        check.due("lays(1)", LychWeights.STATE, x.lays(1));
    }

    private static void layingThoseThatThereAre() {
        check.promise(9, "one of THE DEAD; BAD");
        check.due("of none", LychWeights.BAD, new LychWeights().lays(0));
        LychWeights x = Check.read("l1 0;l2 0;");
        check.due("lays(2)", LychWeights.BAD, x.lays(2));
        check.due("lays(-1)", LychWeights.BAD, x.lays(-1));
        check.due("lays(32)", LychWeights.BAD, x.lays(32));
        check.due("lays(1)", 0, x.lays(1));
        check.due("lays(0)", 0, x.lays(0));
        check.due("lays(6) of six", LychWeights.BAD, Check.read("l1 0;".repeat(6)).lays(6));
    }

    private static void needleIsMovedByLayingAlone() {
        check.promise(9, "THE NEEDLE moves when one is LAID, not when RUST becomes another");
        LychWeights x = Check.read("d40;l40 0;l1 0;r8;");
        x.lays(0);
        check.due("THE NEEDLE", 8, x.now(0));
        x.oils(0);
        x.thumbs(9);
        x.adorns(0, 9);
        x.sins(1, 0);
        x.year();
        check.due("THE NEEDLE", 8, x.now(0));
        check.due("lays(1)", 29, x.lays(1));
        check.due("THE NEEDLE", 1, x.now(0));
    }
}
