/** Promises 21 to 23: each sentence about LIFE, CARRY and ODDS that names an edge has a test of its own. */
public final class LivesEdgesTest {
    private static final Check check = new Check();

    public static void main(String[] args) {
        lifeOfOneOfTheDead();
        lifeByMinus99To99();
        lifeByNone();
        lifeByAll();
        lifeAtMost();
        lifeByTheFewest();
        lifeByTheLeastBits();
        lifeOfWhatHeHasNotDone();
        lifeIsBySoulAlone();
        lifeChangesNothing();
        carryWIs1To240();
        carryIsAskedBy0To2();
        carryByFour();
        carryByStrengthTogether();
        carryBadIsAheadOfNone();
        carryByLeastDifferenceFirst();
        carryByLeastStrengthSecond();
        carryByLeastBitsThird();
        carryByLeastBitsOnTheLeftLast();
        carryAtTheGreatest();
        oddsXIs0To10();
        oddsKIs0To6();
        oddsAreAskedBy0And1();
        oddsOfNoneToSix();
        oddsKAtMost();
        oddsInLeastTerms();
        oddsAtTheGreatest();
        bearersChangeNothing();
        check.end();
    }

    private static void lifeOfOneOfTheDead() {
        check.promise(21, "one of THE DEAD; BAD");
        check.due("of none", LychWeights.BAD, new LychWeights().life(0, 0));
        LychWeights x = Check.read("d19;" + "l1 0;".repeat(6));
        for (int l = 0; l < 6; l++) {
            check.due("life(" + l + ", -1)", 1, x.life(l, -1));
        }
        for (int l : new int[] {-1, 6, -32, 32, Integer.MIN_VALUE, Integer.MAX_VALUE}) {
            check.due("life(" + l + ", 0)", LychWeights.BAD, x.life(l, 0));
            check.due("life(" + l + ", 100)", LychWeights.BAD, x.life(l, 100));
        }
    }

    private static void lifeByMinus99To99() {
        check.promise(21, "s (-99 .. 99); BAD");
        LychWeights x = Check.read("d0;d0;d0;d0;d1;d40;l1 0;");
        check.due("life(0, -99)", 31, x.life(0, -99));
        check.due("life(0, 99)", 0, x.life(0, 99));
        for (int s : new int[] {-100, 100, -101, 101, -256, 256, Integer.MIN_VALUE, Integer.MAX_VALUE}) {
            check.due("life(0, " + s + ")", LychWeights.BAD, x.life(0, s));
        }
    }

    private static void lifeByNone() {
        check.promise(21, "all sets, that of none, too: 0 bits");
        LychWeights x = Check.read("l1 0;");
        check.due("no DEEDS, life(0, 0)", 0, x.life(0, 0));
        check.due("no DEEDS, life(0, -1)", LychWeights.NONE, x.life(0, -1));
        x = Check.read("d25;d15;l1 0 0;");
        check.due("SOUL 5, life(0, 5)", 0, x.life(0, 5));
        check.due("SOUL 5, life(0, 6)", 0, x.life(0, 6));
        check.due("SOUL 5, life(0, 4)", 2, x.life(0, 4));
    }

    private static void lifeByAll() {
        check.promise(21, "all sets, that of all, too; NONE");
        LychWeights x = Check.read("d0;".repeat(4) + "d1;d20;l1 0;l1 0 0 1 2 3 4 5;");
        check.due("all that lift", 31, x.life(0, -99));
        check.due("he did them all", 0, x.life(1, -99));
        x = Check.read("d19;".repeat(6) + "l1 0;l1 0 1 2 3 4;l1 0 0 1 2 3 4 5;");
        check.due("all six", 63, x.life(0, -6));
        check.due("more than all six", LychWeights.NONE, x.life(0, -7));
        check.due("the two left", 33, x.life(1, -6));
        check.due("more than the two left", LychWeights.NONE, x.life(1, -7));
        check.due("none left", 0, x.life(2, -6));
        check.due("more than none left", LychWeights.NONE, x.life(2, -7));
    }

    private static void lifeAtMost() {
        check.promise(21, "his SOUL would be s at most (-120 .. 120)");
        LychWeights x = Check.read("d40;".repeat(5) + "d0;l1 0 0 1 2 3 4;l1 0;");
        check.due("SOUL 100, s 99", 32, x.life(0, 99));
        check.due("SOUL 100, s 80", 32, x.life(0, 80));
        check.due("SOUL 100, s 79", LychWeights.NONE, x.life(0, 79));
        check.due("SOUL 0, s -20", 32, x.life(1, -20));
        check.due("SOUL 0, s -21", LychWeights.NONE, x.life(1, -21));
        x = Check.read("d40;".repeat(6) + "l1 0 0 1 2 3 4 5;");
        check.due("SOUL 120, s 99", LychWeights.NONE, x.life(0, 99));
        x = Check.read("d0;".repeat(6) + "l1 0 0 1 2 3 4 5;");
        check.due("SOUL -120, s -99", 0, x.life(0, -99));
    }

    private static void lifeByTheFewest() {
        check.promise(21, "that of fewest");
        LychWeights x = Check.read("d19;d19;d18;d17;l1 0;");
        int[] due = {0, 1, 4, 8, 9, 12, 13, 15, LychWeights.NONE};
        for (int s = 0; s < due.length; s++) {
            check.due("life(0, -" + s + ")", due[s], x.life(0, -s));
        }
    }

    private static void lifeByTheLeastBits() {
        check.promise(21, "of several the least bits");
        LychWeights x = Check.read("d20;d19;d19;d10;d19;d0;l1 0;");
        check.due("one of 1", 2, x.life(0, -1));
        check.due("one of 10", 8, x.life(0, -2));
        check.due("one of 10", 8, x.life(0, -10));
        check.due("one of 20", 32, x.life(0, -11));
        check.due("two of 21", 34, x.life(0, -21));
        check.due("two of 30", 40, x.life(0, -22));
        check.due("four of 32", 46, x.life(0, -32));
    }

    private static void lifeOfWhatHeHasNotDone() {
        check.promise(21, "sets of DEEDS that he has not done");
        LychWeights x = Check.read("d10;d11;d12;l1 0 0;l1 0;");
        check.due("of one who did 10", 2, x.life(0, -11));
        check.due("of one who did nothing", 3, x.life(1, -11));
        x.sins(1, 1);
        check.due("of one who did 9", 1, x.life(1, -11));
        check.due("of one who did 9", 5, x.life(1, -20));
        x.undo();
        check.due("of one who did nothing", 3, x.life(1, -11));
    }

    private static void lifeIsBySoulAlone() {
        check.promise(21, "SOUL alone, be he CHALKED");
        LychWeights x = Check.read("d15;l40 9;");
        x.thumbs(9);
        check.due("life(0, 0)", 0, x.life(0, 0));
        check.due("life(0, -1)", 1, x.life(0, -1));
        x.lays(0);
        check.due("life(0, 0)", 0, x.life(0, 0));
        check.due("life(0, -5)", 1, x.life(0, -5));
        check.due("life(0, -6)", LychWeights.NONE, x.life(0, -6));
    }

    private static void lifeChangesNothing() {
        check.promise(21, "(nothing is changed)");
        Twins rich = new Twins(check, "a scene", RefusedTest::rich);
        rich.changesNothing("life(0, 5)", 2, x -> x.life(0, 5));
        rich.changesNothing("life(0, 4)", LychWeights.NONE, x -> x.life(0, 4));
    }

    private static void carry(LychWeights x, int w, int four, int left, int differ) {
        check.due("carry(" + w + ", 0)", four, x.carry(w, 0));
        check.due("carry(" + w + ", 1)", left, x.carry(w, 1));
        check.due("carry(" + w + ", 2)", differ, x.carry(w, 2));
    }

    private static void carryNone(LychWeights x, int w) {
        carry(x, w, LychWeights.NONE, LychWeights.NONE, LychWeights.NONE);
    }

    private static void carryWIs1To240() {
        check.promise(22, "w (1 .. 240); BAD");
        LychWeights x = Check.read("b60;b60;b60;b60;");
        carry(x, 1, 15, 3, 0);
        carry(x, 240, 15, 3, 0);
        for (int w : new int[] {0, 241, -1, -240, 256, Integer.MIN_VALUE, Integer.MAX_VALUE}) {
            carry(x, w, LychWeights.BAD, LychWeights.BAD, LychWeights.BAD);
        }
    }

    private static void carryIsAskedBy0To2() {
        check.promise(22, "what = 0 .. 2; BAD");
        LychWeights x = Check.read("b1;b2;b3;b4;");
        carry(x, 1, 15, 6, 0);
        for (int what : new int[] {-1, 3, -9, 32, Integer.MIN_VALUE, Integer.MAX_VALUE}) {
            check.due("carry(1, " + what + ")", LychWeights.BAD, x.carry(1, what));
            check.due("carry(0, " + what + ")", LychWeights.BAD, x.carry(0, what));
            check.due("carry(240, " + what + ")", LychWeights.BAD, x.carry(240, what));
        }
    }

    private static void carryByFour() {
        check.promise(22, "four unlike BEARERS; NONE");
        carryNone(new LychWeights(), 1);
        carryNone(Check.read("b60;"), 1);
        carryNone(Check.read("b60;b60;b60;"), 1);
        carry(Check.read("b60;b60;b60;b60;"), 1, 15, 3, 0);
        carry(Check.read("b60;b60;b60;b60;b60;"), 1, 15, 3, 0);
        carry(Check.read("b1;b1;b1;b1;"), 4, 15, 3, 0);
        carryNone(Check.read("b1;b1;b1;b1;b1;b1;"), 5);
    }

    private static void carryByStrengthTogether() {
        check.promise(22, "of STRENGTH w together or more; NONE");
        LychWeights x = Check.read("b10;b20;b30;b41;");
        carry(x, 100, 15, 6, 1);
        carry(x, 101, 15, 6, 1);
        carryNone(x, 102);
        x = Check.read("b60;b60;b60;b59;");
        carry(x, 239, 15, 3, 1);
        carryNone(x, 240);
        x = Check.read("b1;b1;b1;b1;b2;b2;");
        carry(x, 4, 15, 3, 0);
        carry(x, 5, 51, 17, 0);
        carry(x, 6, 51, 17, 0);
        carryNone(x, 7);
    }

    private static void carryBadIsAheadOfNone() {
        check.promise(22, "BAD, be there no way");
        LychWeights x = new LychWeights();
        check.due("carry(0, 0)", LychWeights.BAD, x.carry(0, 0));
        check.due("carry(241, 0)", LychWeights.BAD, x.carry(241, 0));
        check.due("carry(1, 3)", LychWeights.BAD, x.carry(1, 3));
        check.due("carry(1, -1)", LychWeights.BAD, x.carry(1, -1));
        check.due("carry(240, 2)", LychWeights.NONE, x.carry(240, 2));
    }

    private static void carryByLeastDifferenceFirst() {
        check.promise(22, "by which left and right differ least, be they stronger, be their bits more");
        carry(Check.read("b1;b1;b1;b2;b60;b60;"), 1, 51, 17, 0);
        carry(Check.read("b1;b1;b1;b60;b30;b59;"), 1, 43, 9, 1);
    }

    private static void carryByLeastStrengthSecond() {
        check.promise(22, "of several that of least STRENGTH together");
        carry(Check.read("b9;b9;b9;b9;b8;b8;"), 1, 51, 17, 0);
        carry(Check.read("b9;b9;b9;b9;b8;b8;"), 35, 15, 3, 0);
        carry(Check.read("b60;b60;b1;b1;b1;b1;"), 1, 60, 12, 0);
        carry(Check.read("b60;b60;b1;b1;b1;b1;"), 5, 15, 5, 0);
        LychWeights x = Check.read("b2;b4;b9;b7;b50;b52;");
        carry(x, 22, 15, 5, 0);
        carry(x, 23, 51, 18, 0);
        carry(x, 109, 60, 20, 0);
    }

    private static void carryByLeastBitsThird() {
        check.promise(22, "of several the least bits (of all four)");
        carry(Check.read("b5;b5;b5;b5;b5;b5;"), 20, 15, 3, 0);
        carry(Check.read("b7;b5;b5;b5;b5;b5;"), 20, 30, 6, 0);
        carry(Check.read("b7;b5;b5;b7;b5;b5;"), 20, 54, 6, 0);
        carry(Check.read("b3;b4;b4;b3;b3;b4;"), 14, 15, 3, 0);
    }

    private static void carryByLeastBitsOnTheLeftLast() {
        check.promise(22, "of several the least bits on the left");
        carry(Check.read("b5;b5;b5;b5;"), 1, 15, 3, 0);
        carry(Check.read("b1;b2;b3;b4;"), 1, 15, 6, 0);
        carry(Check.read("b1;b3;b2;b4;"), 1, 15, 6, 0);
        carry(Check.read("b1;b4;b2;b3;"), 1, 15, 3, 0);
        carry(Check.read("b1;b2;b4;b9;"), 1, 15, 6, 4);
        carry(Check.read("b9;b2;b1;b4;"), 1, 15, 5, 4);
    }

    private static void carryAtTheGreatest() {
        check.promise(22, "by how much they differ, at its greatest");
        carry(Check.read("b60;b1;b1;b1;"), 1, 15, 3, 59);
        carry(Check.read("b1;b1;b1;b60;"), 63, 15, 3, 59);
        carry(Check.read("b60;b1;b1;b1;b1;b30;"), 92, 39, 3, 30);
        carryNone(Check.read("b1;b1;b1;b60;"), 64);
        carry(Check.read("b60;b60;b60;b60;b60;b60;"), 240, 15, 3, 0);
    }

    private static void odds(LychWeights x, int tenths, int k, int upper, int lower) {
        check.due("odds(" + tenths + ", " + k + ", 0)", upper, x.odds(tenths, k, 0));
        check.due("odds(" + tenths + ", " + k + ", 1)", lower, x.odds(tenths, k, 1));
    }

    private static void oddsXIs0To10() {
        check.promise(23, "x (0 .. 10); BAD");
        LychWeights x = Check.read("b1;");
        int[] upper = {1, 9, 4, 7, 3, 1, 2, 3, 1, 1, 0};
        int[] lower = {1, 10, 5, 10, 5, 2, 5, 10, 5, 10, 1};
        for (int tenths = 0; tenths <= 10; tenths++) {
            odds(x, tenths, 0, upper[tenths], lower[tenths]);
            odds(x, tenths, 1, 1, 1);
        }
        for (int tenths : new int[] {-1, 11, -10, 32, Integer.MIN_VALUE, Integer.MAX_VALUE}) {
            odds(x, tenths, 0, LychWeights.BAD, LychWeights.BAD);
        }
    }

    private static void oddsKIs0To6() {
        check.promise(23, "k (0 .. 6); BAD");
        LychWeights x = Check.read("b1;b1;b1;b1;b1;b1;");
        int[] upper = {1, 7, 11, 21, 57, 63, 1};
        int[] lower = {64, 64, 32, 32, 64, 64, 1};
        for (int k = 0; k <= 6; k++) {
            odds(x, 5, k, upper[k], lower[k]);
        }
        for (int k : new int[] {-1, 7, -6, 32, Integer.MIN_VALUE, Integer.MAX_VALUE}) {
            odds(x, 5, k, LychWeights.BAD, LychWeights.BAD);
            check.due("odds(5, " + k + ", 0) of none", LychWeights.BAD, new LychWeights().odds(5, k, 0));
        }
    }

    private static void oddsAreAskedBy0And1() {
        check.promise(23, "what = 0, 1; BAD");
        LychWeights x = Check.read("b1;");
        odds(x, 5, 0, 1, 2);
        for (int what : new int[] {-1, 2, -9, 32, Integer.MIN_VALUE, Integer.MAX_VALUE}) {
            check.due("odds(5, 0, " + what + ")", LychWeights.BAD, x.odds(5, 0, what));
            check.due("odds(11, 0, " + what + ")", LychWeights.BAD, x.odds(11, 0, what));
            check.due("odds(0, 7, " + what + ")", LychWeights.BAD, x.odds(0, 7, what));
        }
    }

    private static void oddsOfNoneToSix() {
        check.promise(23, "each BEARER, none to six: that none leans on it");
        int upper = 1;
        int lower = 1;
        String text = "";
        for (int n = 0; n <= 6; n++) {
            odds(Check.read(text), 1, 0, upper, lower);
            text += "b" + (60 - n) + ";";
            upper *= 9;
            lower *= 10;
        }
    }

    private static void oddsKAtMost() {
        check.promise(23, "that k at most do: all, all but one, none");
        String text = "";
        for (int n = 0; n <= 6; n++) {
            LychWeights x = Check.read(text);
            for (int k = 0; k <= 6; k++) {
                odds(x, 10, k, k < n ? 0 : 1, 1);
                odds(x, 0, k, 1, 1);
            }
            text += "b1;";
        }
        LychWeights x = Check.read("b1;b1;b1;");
        odds(x, 2, 2, 124, 125);
        odds(x, 2, 3, 1, 1);
        odds(x, 2, 4, 1, 1);
        odds(x, 2, 6, 1, 1);
    }

    private static void oddsInLeastTerms() {
        check.promise(23, "in least terms");
        LychWeights x = Check.read("b1;b1;");
        odds(x, 2, 0, 16, 25);
        odds(x, 2, 1, 24, 25);
        odds(x, 5, 0, 1, 4);
        odds(x, 3, 0, 49, 100);
        odds(x, 3, 1, 91, 100);
        odds(x, 10, 0, 0, 1);
        odds(x, 10, 1, 0, 1);
        odds(x, 10, 2, 1, 1);
    }

    private static void oddsAtTheGreatest() {
        check.promise(23, "a fraction, at its greatest");
        LychWeights x = Check.read("b60;b60;b60;b60;b60;b60;");
        odds(x, 1, 5, 999999, 1000000);
        odds(x, 9, 0, 1, 1000000);
        odds(x, 9, 1, 11, 200000);
        odds(x, 3, 5, 999271, 1000000);
    }

    private static void bearersChangeNothing() {
        check.promise(22, "(As things are NOW; nothing is changed)");
        Twins rich = new Twins(check, "a scene", RefusedTest::rich);
        rich.changesNothing("carry(100, 0)", 15, x -> x.carry(100, 0));
        rich.changesNothing("carry(100, 1)", 6, x -> x.carry(100, 1));
        rich.changesNothing("carry(100, 2)", 0, x -> x.carry(100, 2));
        rich.changesNothing("carry(101, 0)", LychWeights.NONE, x -> x.carry(101, 0));
        check.promise(23, "(As things are NOW; nothing is changed)");
        rich.changesNothing("odds(5, 0, 1)", 16, x -> x.odds(5, 0, 1));
    }
}
