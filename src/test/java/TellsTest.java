/** Promises 16 to 20: ORDER, what was TOLD, CAN and ASK. */
public final class TellsTest {
    private static final Check check = new Check();

    public static void main(String[] args) {
        orderOfNone();
        orderByRust();
        orderByThumb();
        orderStepByStep();
        orderOfEquals();
        orderOfThoseLeft();
        orderRefused();
        telling();
        forgetting();
        canByRust();
        canAsThingsAre();
        asking();
        check.end();
    }

    private static void order(LychWeights x, int much, int... due) {
        check.due("order(-1)", much, x.order(-1));
        for (int k = 0; k < 6; k++) {
            check.due("order(" + k + ")", k < due.length ? due[k] : LychWeights.NONE, x.order(k));
        }
    }

    private static void orderOfNone() {
        check.promise(16, "order of none");
        order(new LychWeights(), 0);
        LychWeights x = Check.read("l30 0;");
        order(x, 2, 0);
        x.lays(0);
        order(x, 0);
    }

    private static void orderByRust() {
        check.promise(16, "order by rust");
        order(Check.read("l20 0;l1 0;r5;"), 6, 1, 0);
        order(Check.read("l1 0;l20 0;r5;"), 6, 0, 1);
        order(Check.read("l4 0;l20 0;r5;"), 6, 1, 0);
        order(Check.read("d0;l10 0 0;l20 0;r5;"), 5, 0, 1);
        LychWeights x = Check.read("l20 0;l4 0;l30 0;r5;");
        x.lays(2);
        order(x, 6, 0, 1);
        x.oils(0);
        order(x, 0, 0, 1);
    }

    private static void orderByThumb() {
        check.promise(16, "order: THUMB is with the first alone");
        LychWeights x = Check.read("l25 0;l5 0;p30;");
        x.thumbs(9);
        order(x, 4, 1, 0);
        check.due("nothing is changed", 9, x.now(1));
        check.due("nothing is changed", 0, x.now(0) + x.now(3));
        x.thumbs(-9);
        order(x, 2, 1, 0);
        x = Check.read("l40 0;l2 0;p10;r0;");
        x.thumbs(-9);
        order(x, 21, 0, 1);
        x.thumbs(9);
        order(x, 31, 1, 0);
    }

    private static void orderStepByStep() {
        check.promise(16, "order: each from where the one ahead leaves THE NEEDLE");
        LychWeights x = Check.read("l13 0;l15 0;l5 0;l7 0;r5;p24;");
        x.thumbs(-2);
        order(x, 12, 0, 1, 2, 3);
        x = Check.read("l13 0;l18 0;l10 0;l8 0;r0;p16;");
        x.thumbs(9);
        order(x, 3, 3, 0, 1, 2);
        x = Check.read("l30 0;l12 0;l4 0;l10 0;r6;p19;");
        x.lays(0);
        order(x, 12, 1, 2, 3);
    }

    private static void orderOfEquals() {
        check.promise(16, "order: of several the first");
        order(Check.read("l30 0;l30 0;l30 0;l30 0;l30 0;l30 0;"), 12, 0, 1, 2, 3, 4, 5);
        order(Check.read("l20 0;l1 0;l30 0;l1 0;r0;"), 0, 0, 1, 2, 3);
        order(Check.read("l30 0;l1 0;l20 0;r5;"), 11, 1, 0, 2);
    }

    private static void orderOfThoseLeft() {
        check.promise(16, "order of those who are not CHALKED");
        LychWeights x = Check.read("d30;l20 0;l1 0;l30 0;l30 0;r5;");
        x.lays(0);
        order(x, 14, 1, 2, 3);
        x.undo();
        x.lays(2);
        x.lays(3);
        order(x, 9, 0, 1);
        x.sins(1, 0);
        order(x, 10, 0, 1);
        x.adorns(0, 9);
        order(x, 10, 0, 1);
    }

    private static void orderRefused() {
        check.promise(16, "order: BAD");
        LychWeights x = Check.read("l1 0;");
        check.due("order(-2)", LychWeights.BAD, x.order(-2));
        check.due("order(6)", LychWeights.BAD, x.order(6));
        check.due("order(MIN)", LychWeights.BAD, x.order(Integer.MIN_VALUE));
        check.due("order(MAX)", LychWeights.BAD, x.order(Integer.MAX_VALUE));
    }

    private static void telling() {
        check.promise(17, "tells");
        LychWeights x = new LychWeights();
        check.due("tells(1, 0)", 1, x.tells(1, 0));
        check.due("tells(40, 99)", 2, x.tells(40, 99));
        check.due("tells(0, 0)", LychWeights.BAD, x.tells(0, 0));
        check.due("tells(41, 0)", LychWeights.BAD, x.tells(41, 0));
        check.due("tells(1, -1)", LychWeights.BAD, x.tells(1, -1));
        check.due("tells(1, 100)", LychWeights.BAD, x.tells(1, 100));
        for (int n = 3; n <= 6; n++) {
            check.due("tells(1, 0)", n, x.tells(1, 0));
        }
        check.due("a seventh", LychWeights.FULL, x.tells(1, 0));
        check.due("BAD is ahead of FULL", LychWeights.BAD, x.tells(41, 0));
        check.due("TOLD", 6, x.count(5));
        check.due("it can't be UNDONE", LychWeights.STATE, x.undo());
    }

    private static void forgetting() {
        check.promise(18, "forget");
        LychWeights x = Check.read("d22;");
        check.due("forget()", 0, x.forget());
        x.tells(9, 99);
        x.tells(9, 98);
        check.due("can(0)", 0, x.can(0));
        check.due("forget()", 2, x.forget());
        check.due("forget()", 0, x.forget());
        check.due("can(0)", 2, x.can(0));
        check.due("tells(9, 9)", 1, x.tells(9, 9));
        check.due("can(1)", 1, x.can(1));
    }

    private static void can(LychWeights x, int many, int all, int some, int ask) {
        check.due("can(0)", many, x.can(0));
        check.due("can(1)", all, x.can(1));
        check.due("can(2)", some, x.can(2));
        check.due("ask()", ask, x.ask());
    }

    private static void canByRust() {
        check.promise(19, "can: RUST as it is when asked");
        LychWeights x = Check.read("d21;d22;d23;");
        can(x, 8, 0, 7, 0);
        x.tells(10, 10);
        can(x, 1, 2, 2, LychWeights.NONE);
        x.oils(1);
        can(x, 1, 1, 1, LychWeights.NONE);
        x.oils(3);
        can(x, 2, 0, 7, 0);
        x.oils(9);
        can(x, 0, LychWeights.NONE, 0, LychWeights.NONE);
        x.oils(3);
        x.tells(9, 9);
        can(x, 2, 0, 7, 0);
        x.tells(9, 10);
        can(x, 0, LychWeights.NONE, 0, LychWeights.NONE);
        check.due("can(3)", LychWeights.BAD, x.can(3));
        check.due("can(-1)", LychWeights.BAD, x.can(-1));
    }

    private static void canAsThingsAre() {
        check.promise(19, "can: no THUMB, NEEDLE at 0, LOAD 0 at least, PIN");
        LychWeights x = Check.read("d0;d30;l40 9;p30;");
        x.lays(0);
        x.thumbs(9);
        x.tells(10, 0);
        can(x, 2, 1, 3, 1);
        x.tells(12, 0);
        can(x, 2, 1, 3, 1);
        x.tells(13, 1);
        can(x, 1, 3, 3, LychWeights.NONE);
        x.forget();
        x.tells(40, 30);
        can(x, 2, 0, 2, 1);
        x.tells(40, 31);
        can(x, 0, LychWeights.NONE, 0, LychWeights.NONE);
        can(new LychWeights(), 1, 0, 0, LychWeights.NONE);
    }

    private static void asking() {
        check.promise(20, "ask");
        LychWeights x = Check.read("d25;d21;d20;");
        x.tells(10, 13);
        can(x, 2, 1, 5, 2);
        x = Check.read("d21;d21;d21;d21;");
        x.tells(10, 9);
        can(x, 4, 0, 15, 0);
        x = Check.read("d30;d20;d20;d30;");
        x.tells(10, 18);
        can(x, 8, 0, 15, 0);
        x = Check.read("d20;d30;d21;d21;d21;d40;");
        x.tells(10, 9);
        can(x, 6, 0, 29, 0);
        x = Check.read("d40;d21;d21;d21;d40;");
        x.tells(10, 10);
        can(x, 3, 0, 14, 1);
    }
}
