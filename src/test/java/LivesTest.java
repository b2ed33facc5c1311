/** Promises 21 to 23: LIFE, CARRY, ODDS. */
public final class LivesTest {
    private static final Check check = new Check();

    public static void main(String[] args) {
        lives();
        livesRefused();
        carrying();
        carryingUneven();
        carryingNone();
        leaning();
        leaningOfNone();
        check.end();
    }

    private static void lives() {
        check.promise(21, "life");
        LychWeights x = Check.read("d0;d25;d17;d18;d15;l9 0 1;");
        int[][] due = {{99, 0}, {5, 0}, {4, 1}, {-15, 1}, {-16, 5}, {-18, 5}, {-19, 17}, {-20, 17},
            {-21, 21}, {-23, 21}, {-24, 29}, {-25, 29}, {-26, -9}, {-99, -9}};
        for (int[] row : due) {
            check.due("life(0, " + row[0] + ")", row[1], x.life(0, row[0]));
        }
        x.lays(0);
        check.due("life of one that is CHALKED", 5, x.life(0, -16));
        check.due("nothing is changed", 2, x.dead(0, 2));
        x = Check.read("d17;d17;d16;d18;l9 0;l9 0 2;");
        check.due("of several the least bits", 1, x.life(0, -2));
        check.due("fewest ahead of least bits", 4, x.life(0, -4));
        check.due("not what he has done", 0, x.life(1, -4));
        check.due("of several the least bits", 1, x.life(1, -5));
        check.due("two more", 3, x.life(1, -10));
        x = Check.read("d19;d19;d19;d19;d19;d19;l9 0;");
        check.due("five of six", 31, x.life(0, -5));
        check.due("all six", 63, x.life(0, -6));
        check.due("more than all", LychWeights.NONE, x.life(0, -7));
    }

    private static void livesRefused() {
        check.promise(21, "life: BAD");
        LychWeights x = Check.read("d20;l9 0;");
        check.due("life(0, 100)", LychWeights.BAD, x.life(0, 100));
        check.due("life(0, -100)", LychWeights.BAD, x.life(0, -100));
        check.due("life(1, 0)", LychWeights.BAD, x.life(1, 0));
        check.due("life(-1, 0)", LychWeights.BAD, x.life(-1, 0));
    }

    private static void carry(LychWeights x, int w, int four, int left, int differ) {
        check.due("carry(" + w + ", 0)", four, x.carry(w, 0));
        check.due("carry(" + w + ", 1)", left, x.carry(w, 1));
        check.due("carry(" + w + ", 2)", differ, x.carry(w, 2));
    }

    private static void carrying() {
        check.promise(22, "carry");
        LychWeights x = Check.read("b10;b20;b30;b40;b50;b60;");
        carry(x, 1, 15, 6, 0);
        carry(x, 100, 15, 6, 0);
        carry(x, 101, 27, 10, 0);
        carry(x, 121, 30, 12, 0);
        carry(x, 140, 30, 12, 0);
        carry(x, 141, 54, 20, 0);
        carry(x, 161, 60, 24, 0);
        carry(x, 180, 60, 24, 0);
        carry(x, 181, LychWeights.NONE, LychWeights.NONE, LychWeights.NONE);
        carry(Check.read("b60;b60;b60;b60;"), 240, 15, 3, 0);
    }

    private static void carryingUneven() {
        check.promise(22, "carry: least differing first, then least STRENGTH");
        carry(Check.read("b1;b2;b4;b8;"), 15, 15, 6, 3);
        carry(Check.read("b1;b1;b1;b4;b9;b9;"), 1, 51, 17, 0);
        carry(Check.read("b9;b9;b9;b9;b5;b5;"), 1, 51, 17, 0);
        carry(Check.read("b9;b9;b9;b9;b5;b5;"), 29, 15, 3, 0);
        carry(Check.read("b7;b7;b7;b7;b7;b7;"), 28, 15, 3, 0);
    }

    private static void carryingNone() {
        check.promise(22, "carry: NONE, BAD");
        LychWeights x = Check.read("b60;b60;b60;");
        carry(x, 1, LychWeights.NONE, LychWeights.NONE, LychWeights.NONE);
        carry(new LychWeights(), 1, LychWeights.NONE, LychWeights.NONE, LychWeights.NONE);
        check.due("carry(0, 0)", LychWeights.BAD, x.carry(0, 0));
        check.due("carry(241, 0)", LychWeights.BAD, x.carry(241, 0));
        check.due("carry(1, 3)", LychWeights.BAD, x.carry(1, 3));
        check.due("carry(1, -1)", LychWeights.BAD, x.carry(1, -1));
    }

    private static void odds(LychWeights x, int tenths, int k, int upper, int lower) {
        check.due("odds(" + tenths + ", " + k + ", 0)", upper, x.odds(tenths, k, 0));
        check.due("odds(" + tenths + ", " + k + ", 1)", lower, x.odds(tenths, k, 1));
    }

    private static void leaning() {
        check.promise(23, "odds");
        LychWeights x = Check.read("b1;b1;");
        odds(x, 5, 0, 1, 4);
        odds(x, 5, 1, 3, 4);
        odds(x, 5, 2, 1, 1);
        odds(x, 5, 6, 1, 1);
        odds(x, 10, 1, 0, 1);
        odds(x, 10, 2, 1, 1);
        odds(x, 0, 0, 1, 1);
        x = Check.read("b1;b60;b30;");
        odds(x, 3, 0, 343, 1000);
        odds(x, 3, 1, 98, 125);
        odds(x, 3, 2, 973, 1000);
        odds(x, 3, 3, 1, 1);
        x = Check.read("b1;b1;b1;b1;b1;b1;");
        odds(x, 1, 0, 531441, 1000000);
        odds(x, 9, 5, 468559, 1000000);
        odds(x, 5, 3, 21, 32);
        odds(x, 10, 5, 0, 1);
    }

    private static void leaningOfNone() {
        check.promise(23, "odds: no BEARERS, BAD");
        LychWeights x = new LychWeights();
        odds(x, 0, 0, 1, 1);
        odds(x, 10, 0, 1, 1);
        odds(x, 7, 6, 1, 1);
        check.due("odds(-1, 0, 0)", LychWeights.BAD, x.odds(-1, 0, 0));
        check.due("odds(11, 0, 0)", LychWeights.BAD, x.odds(11, 0, 0));
        check.due("odds(0, -1, 0)", LychWeights.BAD, x.odds(0, -1, 0));
        check.due("odds(0, 7, 0)", LychWeights.BAD, x.odds(0, 7, 0));
        check.due("odds(0, 0, 2)", LychWeights.BAD, x.odds(0, 0, 2));
        check.due("odds(0, 0, -1)", LychWeights.BAD, x.odds(0, 0, -1));
    }
}
