import java.util.Arrays;

/** Promises 16 to 20: each sentence about ORDER, what was TOLD, CAN and ASK that names an edge has a test of its own. */
public final class TellsEdgesTest {
    private static final String POWERS = "d21;d22;d24;d28;d36;d20;";
    private static final Check check = new Check();

    public static void main(String[] args) {
        orderOfNone();
        orderOfOneToSix();
        orderOfThoseNotChalked();
        orderIsAskedByMinus1To5();
        orderByTheFirstOfSeveral();
        orderByTheSecondOfSeveral();
        orderThumbIsWithTheFirstAlone();
        orderThumbIsOffForTheSecond();
        orderEachFromWhereTheOneAheadLeavesTheNeedle();
        orderLoadsAre0AtLeast();
        orderCountsBothSides();
        orderPinAtMost();
        orderAtMost();
        orderIsByThingsAsTheyAre();
        orderChangesNothing();
        tellsBoxesOf1To40();
        tellsReadingsOf0To99();
        tellsSixAtMost();
        tellsBadIsAheadOfFull();
        toldStays();
        forgetsAll();
        canOfNothingTold();
        canNone();
        canIsAskedBy0To2();
        canLoadIs0AtLeast();
        canRustHoldsIt();
        canPinAtMost();
        canRustIsThatOfWhenItIsAsked();
        canWithoutFlowersThumbNeedle();
        canByEachThatWasTold();
        canChangesNothing();
        askNoneIfOneCanAtMost();
        askTheLowest();
        askTheSmallestGreaterPart();
        askTheLastDeed();
        check.end();
    }

    private static void order(LychWeights x, int much, int... due) {
        check.due("order(-1)", much, x.order(-1));
        for (int k = 0; k < 6; k++) {
            check.due("order(" + k + ")", k < due.length ? due[k] : LychWeights.NONE, x.order(k));
        }
    }

    private static void orderOfNone() {
        check.promise(16, "all of THE DEAD who are not CHALKED, be there none: 0; NONE: not so many");
        order(new LychWeights(), 0);
        LychWeights x = Check.read("l30 0;l20 0;");
        x.lays(1);
        x.lays(0);
        order(x, 0);
        x.thumbs(9);
        order(x, 0);
        x.undo();
        x.undo();
        order(x, 2, 0);
    }

    private static void orderOfOneToSix() {
        check.promise(16, "the k-th; NONE: not so many");
        int[] due = new int[0];
        String text = "r0;";
        for (int n = 0; n <= 6; n++) {
            order(Check.read(text), 0, due);
            text += "l1 0;";
            due = Arrays.copyOf(due, n + 1);
            due[n] = n;
        }
    }

    private static void orderOfThoseNotChalked() {
        check.promise(16, "who are not CHALKED: the last one, the first one");
        LychWeights x = Check.read("l11 0;l12 0;l13 0;l14 0;l15 0;l16 0;r0;");
        for (int l = 0; l < 5; l++) {
            x.lays(l);
        }
        order(x, 0, 5);
        x = Check.read("l11 0;l12 0;l13 0;l14 0;l15 0;l16 0;r0;");
        for (int l = 5; l > 0; l--) {
            x.lays(l);
        }
        order(x, 0, 0);
        x.lays(0);
        order(x, 0);
    }

    private static void orderIsAskedByMinus1To5() {
        check.promise(16, "BAD (below -1, above 5)");
        LychWeights six = Check.read("l1 0;".repeat(6) + "r0;");
        LychWeights none = new LychWeights();
        check.due("order(-1)", 0, six.order(-1));
        check.due("order(5)", 5, six.order(5));
        check.due("order(5) of none", LychWeights.NONE, none.order(5));
        for (int k : new int[] {-2, 6, -3, 7, -9, 32, Integer.MIN_VALUE, Integer.MAX_VALUE}) {
            check.due("order(" + k + ")", LychWeights.BAD, six.order(k));
            check.due("order(" + k + ") of none", LychWeights.BAD, none.order(k));
        }
    }

    private static void orderByTheFirstOfSeveral() {
        check.promise(16, "of several the first: the lowest one first");
        // by RUST 5 and THE NEEDLE at 0: 10 and 20 differ by 5 each, 2 by 2 if it is first, by 3 behind another
        order(Check.read("l10 0;l20 0;r5;"), 10, 0, 1);
        order(Check.read("l20 0;l10 0;r5;"), 10, 0, 1);
        order(Check.read("l20 0;l10 0;l2 0;r5;"), 12, 2, 0, 1);
        order(Check.read("l2 0;l20 0;l10 0;r5;"), 12, 0, 1, 2);
    }

    private static void orderByTheSecondOfSeveral() {
        check.promise(16, "of several the first: then the second ..");
        order(Check.read("l2 0;l2 0;l20 0;l20 0;r5;"), 14, 0, 1, 2, 3);
        order(Check.read("l20 0;l2 0;l20 0;l2 0;r5;"), 14, 1, 3, 0, 2);
        order(Check.read("l20 0;l20 0;l20 0;l20 0;l2 0;l20 0;r5;"), 27, 4, 0, 1, 2, 3, 5);
        order(Check.read("l6 0;".repeat(6) + "r9;"), 36, 0, 1, 2, 3, 4, 5);
    }

    private static void orderThumbIsWithTheFirstAlone() {
        check.promise(16, "LOADS as each is when it is LAID: THUMB is with the first alone");
        LychWeights x = Check.read("l30 0;l10 0;p20;r0;");
        order(x, 10, 0, 1);
        x.thumbs(9);
        order(x, 10, 1, 0);
        x.thumbs(-9);
        order(x, 1, 0, 1);
        x = Check.read("l15 0;l15 0;l15 0;p20;r0;");
        x.thumbs(6);
        order(x, 1, 0, 1, 2);
        x.thumbs(5);
        order(x, 0, 0, 1, 2);
    }

    private static void orderThumbIsOffForTheSecond() {
        check.promise(16, "THUMB is with the first alone: the second and the third are picked without it");
        LychWeights x = Check.read("l11 0;l12 0;l10 0;p20;r0;");
        x.thumbs(9);
        order(x, 0, 0, 1, 2);
        x = Check.read("l10 0;l12 0;l21 0;p20;r0;");
        x.thumbs(9);
        order(x, 1, 0, 1, 2);
        x.thumbs(-9);
        order(x, 0, 2, 0, 1);
    }

    private static void orderEachFromWhereTheOneAheadLeavesTheNeedle() {
        check.promise(16, "what THE NEEDLE tells, each behind the one ahead (and behind LOAD 0)");
        // by RUST 5, that of 4 differs by 4 from 0, by 1 from 5: so it is not first, and then all is one
        order(Check.read("l30 0;l20 0;l4 0;r5;"), 11, 0, 1, 2);
        order(Check.read("l30 0;l4 0;l20 0;r5;"), 11, 0, 1, 2);
        order(Check.read("l4 0;l30 0;l20 0;r5;"), 11, 1, 0, 2);
        // one that is held at 3 leaves it there, not at RUST
        order(Check.read("l8 0;l30 0;l3 0;l3 0;r5;"), 10, 0, 2, 3, 1);
        order(Check.read("l3 0;l30 0;l8 0;l3 0;r5;"), 10, 2, 0, 3, 1);
    }

    private static void orderLoadsAre0AtLeast() {
        check.promise(16, "LOADS: 0 at least");
        LychWeights x = Check.read("d0;l1 0 0;l30 0;r0;");
        order(x, 0, 0, 1);
        x.thumbs(-9);
        order(x, 0, 0, 1);
        x = Check.read("d0;l1 0 0;l3 0;r4;");
        order(x, 3, 0, 1);
        x.thumbs(9);
        // the first takes the THUMB, and weighs 0 all the same
        order(x, 3, 0, 1);
        check.due("dead(0, 4)", 0, x.dead(0, 4));
    }

    private static void orderCountsBothSides() {
        check.promise(16, "differs least: more and less alike");
        LychWeights x = Check.read("l40 0;l1 0;l14 0;r6;");
        x.lays(0);
        check.due("THE NEEDLE", 6, x.now(0));
        check.due("READS of one that is lighter", 6, x.dead(1, 6));
        check.due("READS of one that is heavier", 8, x.dead(2, 6));
        order(x, 11, 1, 2);
        x.oils(0);
        order(x, 0, 1, 2);
        x.oils(9);
        // 5 too much for that of 1, 8 too little for that of 14, whoever is first
        order(x, 13, 1, 2);
    }

    private static void orderPinAtMost() {
        check.promise(16, "what THE NEEDLE tells: PIN at most");
        order(Check.read("l9 0;p10;r0;"), 0, 0);
        order(Check.read("l10 0;p10;r0;"), 0, 0);
        order(Check.read("l11 0;p10;r0;"), 1, 0);
        order(Check.read("l40 9;l40 9;p99;r0;"), 0, 0, 1);
        order(Check.read("l40 9;l40 9;p48;r0;"), 2, 0, 1);
    }

    private static void orderAtMost() {
        check.promise(16, "all differences together, at their greatest");
        LychWeights x = Check.read("d40;".repeat(6) + "l40 9 0 1 2 3 4 5;".repeat(6) + "p10;r9;");
        order(x, 954, 0, 1, 2, 3, 4, 5);
        x.thumbs(9);
        order(x, 963, 0, 1, 2, 3, 4, 5);
        x.thumbs(-9);
        order(x, 945, 0, 1, 2, 3, 4, 5);
        x = Check.read("d0;".repeat(6) + "l40 9 0 1 2 3 4 5;".repeat(6) + "p10;r9;");
        order(x, 0, 0, 1, 2, 3, 4, 5);
    }

    private static void orderIsByThingsAsTheyAre() {
        check.promise(16, "(As things are NOW ..)");
        LychWeights x = Check.read("d25;l20 0;l1 0;r5;");
        order(x, 6, 1, 0);
        x.oils(4);
        order(x, 5, 1, 0);
        x.oils(0);
        order(x, 0, 0, 1);
        x.oils(5);
        x.adorns(1, 4);
        order(x, 5, 0, 1);
        x.sins(1, 0);
        order(x, 10, 0, 1);
        x.undo();
        x.undo();
        order(x, 6, 1, 0);
        x.sins(0, 0);
        order(x, 6, 1, 0);
        x = Check.read("l40 0;l20 0;l1 0;r5;");
        x.lays(0);
        order(x, 9, 1, 2);
    }

    private static void orderChangesNothing() {
        check.promise(16, "(.. nothing is changed)");
        Twins rich = new Twins(check, "a scene", RefusedTest::rich);
        rich.changesNothing("order(-1)", 6, x -> x.order(-1));
        rich.changesNothing("order(0)", 0, x -> x.order(0));
        rich.changesNothing("order(1)", 2, x -> x.order(1));
        rich.changesNothing("order(2)", LychWeights.NONE, x -> x.order(2));
    }

    private static void tellsBoxesOf1To40() {
        check.promise(17, "BOX b (1 .. 40); BAD");
        LychWeights x = new LychWeights();
        check.due("tells(0, 0)", LychWeights.BAD, x.tells(0, 0));
        check.due("tells(1, 0)", 1, x.tells(1, 0));
        check.due("tells(40, 0)", 2, x.tells(40, 0));
        for (int b : new int[] {41, -1, -40, 64, 256, Integer.MIN_VALUE, Integer.MAX_VALUE}) {
            check.due("tells(" + b + ", 0)", LychWeights.BAD, x.tells(b, 0));
        }
        check.due("TOLD", 2, x.count(5));
    }

    private static void tellsReadingsOf0To99() {
        check.promise(17, "it told v (0 .. 99), be it above PIN; BAD");
        LychWeights x = Check.read("p10;");
        check.due("tells(1, -1)", LychWeights.BAD, x.tells(1, -1));
        check.due("tells(1, 0)", 1, x.tells(1, 0));
        check.due("tells(1, 99)", 2, x.tells(1, 99));
        for (int v : new int[] {100, -99, 128, 256, Integer.MIN_VALUE, Integer.MAX_VALUE}) {
            check.due("tells(1, " + v + ")", LychWeights.BAD, x.tells(1, v));
        }
        check.due("TOLD", 2, x.count(5));
    }

    private static void tellsSixAtMost() {
        check.promise(17, "how much there is (TOLD: 6 at most); FULL");
        LychWeights x = new LychWeights();
        for (int n = 1; n <= 6; n++) {
            check.due("tells(5, 5)", n, x.tells(5, 5));
            check.due("TOLD", n, x.count(5));
        }
        check.due("a seventh", LychWeights.FULL, x.tells(5, 5));
        check.due("a seventh, again", LychWeights.FULL, x.tells(1, 99));
        check.due("TOLD", 6, x.count(5));
        check.due("forget()", 6, x.forget());
        check.due("tells(5, 5)", 1, x.tells(5, 5));
    }

    private static void tellsBadIsAheadOfFull() {
        check.promise(17, "BAD ahead of FULL");
        LychWeights x = new LychWeights();
        for (int n = 1; n <= 6; n++) {
            x.tells(5, 5);
        }
        check.due("tells(0, 5)", LychWeights.BAD, x.tells(0, 5));
        check.due("tells(41, 5)", LychWeights.BAD, x.tells(41, 5));
        check.due("tells(5, -1)", LychWeights.BAD, x.tells(5, -1));
        check.due("tells(5, 100)", LychWeights.BAD, x.tells(5, 100));
        check.due("tells(41, 100)", LychWeights.BAD, x.tells(41, 100));
        check.due("tells(40, 99)", LychWeights.FULL, x.tells(40, 99));
    }

    private static void toldStays() {
        check.promise(17, "TOLD: till forget() or gate()");
        LychWeights x = Check.read("d21;r0;");
        x.keep(0);
        x.thumbs(1);
        x.tells(5, 6);
        x.undo();
        check.due("behind undo()", 1, x.count(5));
        x.back(0);
        check.due("behind back()", 1, x.count(5));
        x.type('x');
        x.gate();
        check.due("behind a FAULT", 1, x.count(5));
        check.due("can(1)", 1, x.can(1));
        x.clear();
        x.gate();
        check.due("behind gate()", 0, x.count(5));
    }

    private static void forgetsAll() {
        check.promise(18, "how much was (TOLD)");
        LychWeights x = Check.read("d21;r0;");
        for (int many = 0; many <= 6; many++) {
            for (int n = 0; n < many; n++) {
                x.tells(5, 99);
            }
            check.due("can(0)", many == 0 ? 2 : 0, x.can(0));
            check.due("forget()", many, x.forget());
            check.due("TOLD", 0, x.count(5));
            check.due("can(0)", 2, x.can(0));
        }
        x.tells(5, 5);
        check.due("nothing of what was TOLD before", 1, x.can(0));
        check.due("nothing of what was TOLD before", 0, x.can(1));
    }

    private static void can(LychWeights x, int many, int all, int some, int ask) {
        check.due("can(0)", many, x.can(0));
        check.due("can(1)", all, x.can(1));
        check.due("can(2)", some, x.can(2));
        check.due("ask()", ask, x.ask());
    }

    private static void canOfNothingTold() {
        check.promise(19, "sets of DEEDS: all, if nothing was TOLD");
        String text = "";
        for (int deeds = 0; deeds <= 6; deeds++) {
            can(Check.read(text), 1 << deeds, 0, (1 << deeds) - 1, deeds == 0 ? LychWeights.NONE : 0);
            text += "d2" + deeds + ";";
        }
    }

    private static void canNone() {
        check.promise(19, "those in all (bits; NONE: there are none)");
        LychWeights x = new LychWeights();
        x.tells(10, 9);
        can(x, 0, LychWeights.NONE, 0, LychWeights.NONE);
        x.forget();
        x.tells(10, 8);
        can(x, 1, 0, 0, LychWeights.NONE);
        x.tells(10, 7);
        can(x, 0, LychWeights.NONE, 0, LychWeights.NONE);
        x = Check.read("d40;".repeat(6));
        x.tells(1, 99);
        can(x, 0, LychWeights.NONE, 0, LychWeights.NONE);
    }

    private static void canIsAskedBy0To2() {
        check.promise(19, "what = 0 .. 2; BAD");
        LychWeights some = Check.read("d21;");
        LychWeights none = Check.read("d21;");
        none.tells(1, 99);
        for (int what : new int[] {-1, 3, -9, 32, Integer.MIN_VALUE, Integer.MAX_VALUE}) {
            check.due("can(" + what + ")", LychWeights.BAD, some.can(what));
            check.due("can(" + what + ") of none", LychWeights.BAD, none.can(what));
        }
    }

    private static void canLoadIs0AtLeast() {
        check.promise(19, "one TOLD: LOAD is 0 at least");
        LychWeights x = Check.read("d10;d11;d9;r0;");
        x.tells(10, 0);
        // 10 less 10, less 11, less 9 and their sums: all but those of 9 alone and of none are 0
        can(x, 6, 0, 7, 1);
        x.forget();
        x.tells(10, 1);
        can(x, 1, 2, 2, LychWeights.NONE);
        x.forget();
        x.tells(11, 0);
        can(x, 5, 0, 7, 0);
    }

    private static void canRustHoldsIt() {
        check.promise(19, "one TOLD: rust holds THE NEEDLE at 0");
        LychWeights x = Check.read(POWERS + "r9;");
        x.tells(1, 0);
        // 1 and a SOUL of 8 at most: 0 .. 8, and the sixth DEED weighs nothing
        can(x, 18, 0, 47, 5);
        x.oils(2);
        can(x, 4, 0, 33, 0);
        x.oils(0);
        can(x, 0, LychWeights.NONE, 0, LychWeights.NONE);
        x.oils(1);
        can(x, 2, 0, 32, 5);
    }

    private static void canPinAtMost() {
        check.promise(19, "one TOLD: PIN at most");
        LychWeights x = Check.read(POWERS + "p20;r0;");
        x.tells(10, 20);
        // a SOUL of 10 or more, 31 at most: 22 of them, with the sixth DEED or without
        can(x, 44, 0, 63, 0);
        x.forget();
        x.tells(10, 19);
        can(x, 2, 9, 41, 5);
        x.forget();
        x.tells(10, 21);
        can(x, 0, LychWeights.NONE, 0, LychWeights.NONE);
        x.forget();
        x.tells(40, 20);
        can(x, 64, 0, 63, 0);
    }

    private static void canRustIsThatOfWhenItIsAsked() {
        check.promise(19, "RUST as it is when that is asked");
        LychWeights x = Check.read("d21;d22;r0;");
        x.tells(10, 10);
        can(x, 1, 0, 0, LychWeights.NONE);
        x.oils(1);
        can(x, 1, 1, 1, LychWeights.NONE);
        x.year();
        can(x, 1, 2, 2, LychWeights.NONE);
        x.year();
        can(x, 1, 3, 3, LychWeights.NONE);
        x.year();
        can(x, 0, LychWeights.NONE, 0, LychWeights.NONE);
        x.undo();
        can(x, 1, 3, 3, LychWeights.NONE);
    }

    private static void canWithoutFlowersThumbNeedle() {
        check.promise(19, "with no FLOWERS, no THUMB, THE NEEDLE at 0");
        LychWeights x = Check.read("d21;d22;l40 9 0 1;r9;");
        x.lays(0);
        x.thumbs(9);
        check.due("THE NEEDLE", 9, x.now(0));
        x.tells(10, 1);
        can(x, 1, 0, 0, LychWeights.NONE);
        x.oils(0);
        x.forget();
        x.tells(10, 10);
        can(x, 1, 0, 0, LychWeights.NONE);
        x.thumbs(-9);
        can(x, 1, 0, 0, LychWeights.NONE);
    }

    private static void canByEachThatWasTold() {
        check.promise(19, "all that was TOLD is so, the first and the sixth, too");
        for (int wrong = 0; wrong < 6; wrong++) {
            LychWeights x = Check.read("d21;d22;r0;");
            for (int n = 0; n < 6; n++) {
                x.tells(10 + n, n == wrong ? 13 + n : 12 + n);
            }
            can(x, 0, LychWeights.NONE, 0, LychWeights.NONE);
        }
        LychWeights x = Check.read("d21;d22;r0;");
        for (int n = 0; n < 6; n++) {
            x.tells(10 + n, 12 + n);
        }
        can(x, 1, 2, 2, LychWeights.NONE);
    }

    private static void canChangesNothing() {
        check.promise(19, "(As things are NOW; nothing is changed)");
        Twins rich = new Twins(check, "a scene", RefusedTest::rich);
        rich.changesNothing("can(0)", 2, x -> x.can(0));
        rich.changesNothing("can(1)", 2, x -> x.can(1));
        rich.changesNothing("can(2)", 6, x -> x.can(2));
        rich.changesNothing("ask()", 2, LychWeights::ask);
    }

    private static void askNoneIfOneCanAtMost() {
        check.promise(20, "NONE (one can be at most)");
        check.due("no DEEDS: one can be", LychWeights.NONE, new LychWeights().ask());
        LychWeights x = Check.read("d21;d22;r0;");
        check.due("four can be", 0, x.ask());
        x.tells(10, 11);
        check.due("one can be", LychWeights.NONE, x.ask());
        x.tells(10, 12);
        check.due("none can be", LychWeights.NONE, x.ask());
        x = Check.read("d20;r0;");
        x.tells(10, 10);
        check.due("two can be", 0, x.ask());
        x.tells(10, 11);
        check.due("none can be", LychWeights.NONE, x.ask());
    }

    private static void askTheLowest() {
        check.promise(20, "of several the lowest");
        check.due("each is one half", 0, Check.read("d21;".repeat(6)).ask());
        LychWeights x = Check.read("d30;d21;d21;d21;d21;d30;r0;");
        x.tells(10, 12);
        // two of the four that weigh 1: each is in three of six
        can(x, 6, 0, 30, 1);
    }

    private static void askTheSmallestGreaterPart() {
        check.promise(20, "the greater part of these is smallest (be it all of them)");
        LychWeights x = Check.read("d40;d21;d21;d21;d22;d40;r0;");
        x.tells(10, 12);
        // that of 2 alone, or two of the three that weigh 1: done by 0 of 4, 2 of 4, 1 of 4
        can(x, 4, 0, 30, 1);
        x = Check.read("d40;d23;d21;d21;d21;d22;r0;");
        x.tells(10, 13);
        // 3; 1 1 1; 2 and one of three: with 2 there are three of five, with the first 1 two, with 3 one
        can(x, 5, 0, 62, 2);
        x = Check.read("d21;d22;d22;d22;d40;r0;");
        x.tells(10, 15);
        // 1 and two of three: what all did is no matter, and what none did
        can(x, 3, 1, 15, 1);
    }

    private static void askTheLastDeed() {
        check.promise(20, "ASK: the last of six DEEDS");
        LychWeights x = Check.read(POWERS + "r0;");
        x.tells(10, 15);
        can(x, 2, 5, 37, 5);
    }
}
