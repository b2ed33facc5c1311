/** Promises 2 to 4: each sentence about THE TEXT that names an edge has a test of its own. */
public final class TextEdgesTest {
    private static final Check check = new Check();
    private static final String FULL_TEXT = "d0;d40;d20;d19;d21;d1;l40 9 0 1 2 3 4 5;l40 9 5 4 3 2 1 0;"
        + "l1 0 0 1 2 3 4 5;l1 9 0 2 4;l40 0;l1 0;b60;b60;b60;b1;b1;b1;p99;r9;";

    public static void main(String[] args) {
        lettersAreAtMost150();
        lettersAreTakenAgainBehindClear();
        aLetterIs0To255();
        badLettersAreAheadOfFull();
        clearTellsHowManyThereWere();
        clearLeavesNothing();
        itemsMayBeNone();
        itemsAreAtMostTwenty();
        itemsAreEachEnded();
        blanksMayBeAnyNumber();
        blanksAreNeededOnlyBetweenNumbers();
        weightsAreTold0To40();
        boxesAre1To40();
        flowersAre0To9();
        strengthsAre1To60();
        pinIs10To99();
        rustIs0To9();
        numbersStandWhereTheyMust();
        deedsAreAtMostSix();
        deadAreAtMostSix();
        bearersAreAtMostSix();
        pinAndRustAreToldOnce();
        deedsDoneAreNoneToSix();
        deedsDoneAreToldAhead();
        deedsDoneAreUnlike();
        tokensAreTheseLettersAlone();
        numbersAreAtMost99();
        numbersHaveNo0Ahead();
        faultIsTheTextsLengthIfItEndsTooEarly();
        faultIsThatOfTheFirst();
        faultIsToldBelowMinus10();
        faultChangesNothing();
        textStaysBehindAFault();
        textIsEmptyBehindGate();
        whatIsNotToldIsAsAtFirst();
        whatWasToldIsGone();
        whatWasDoneIsGone();
        check.end();
    }

    private static void gives(String text, int items) {
        LychWeights x = new LychWeights();
        Check.type(x, text);
        check.due("gate() of '" + text + "'", items, x.gate());
    }

    private static void fault(String text, int place) {
        gives(text, -10 - place);
    }

    private static void lettersAreAtMost150() {
        check.promise(2, "150 letters at most");
        LychWeights x = new LychWeights();
        for (int n = 1; n <= 150; n++) {
            check.due("type, the " + n + "th", n, x.type(' '));
        }
        check.due("type, the 151st", LychWeights.FULL, x.type(' '));
        check.due("type, once more", LychWeights.FULL, x.type(' '));
        check.due("letters", 150, x.count(6));
    }

    private static void lettersAreTakenAgainBehindClear() {
        check.promise(2, "FULL no more behind clear(), or gate() without a FAULT");
        LychWeights x = new LychWeights();
        Check.type(x, " ".repeat(150));
        x.clear();
        check.due("type behind clear()", 1, x.type(';'));
        Check.type(x, " ".repeat(149));
        check.due("gate()", -10, x.gate());
        check.due("type behind a FAULT", LychWeights.FULL, x.type(' '));
        x.clear();
        Check.type(x, " ".repeat(150));
        check.due("gate()", 0, x.gate());
        check.due("type behind gate()", 1, x.type(' '));
    }

    private static void aLetterIs0To255() {
        check.promise(2, "a letter (0 .. 255)");
        LychWeights x = new LychWeights();
        for (int letter = 0; letter < 256; letter++) {
            check.due("type(" + letter + ")", letter % 128 + 1, x.type(letter));
            if (letter == 127) {
                x.clear();
            }
        }
        for (int letter : new int[] {-1, 256, -128, -256, 257, 65536 + 32, Integer.MIN_VALUE, Integer.MAX_VALUE}) {
            check.due("type(" + letter + ")", LychWeights.BAD, x.type(letter));
        }
        check.due("those refused don't count", 128, x.count(6));
    }

    private static void badLettersAreAheadOfFull() {
        check.promise(2, "BAD ahead of FULL");
        LychWeights x = new LychWeights();
        Check.type(x, " ".repeat(150));
        check.due("type(256)", LychWeights.BAD, x.type(256));
        check.due("type(-1)", LychWeights.BAD, x.type(-1));
        check.due("type(255)", LychWeights.FULL, x.type(255));
        check.due("type(0)", LychWeights.FULL, x.type(0));
    }

    private static void clearTellsHowManyThereWere() {
        check.promise(3, "how many letters it had");
        LychWeights x = new LychWeights();
        check.due("clear() of none", 0, x.clear());
        x.type('d');
        check.due("clear() of one", 1, x.clear());
        check.due("clear() again", 0, x.clear());
        Check.type(x, "d".repeat(150));
        x.type('d');
        check.due("clear() of a full one", 150, x.clear());
        x.type(256);
        check.due("clear() of none: that letter was BAD", 0, x.clear());
    }

    private static void clearLeavesNothing() {
        check.promise(3, "THE TEXT is empty");
        LychWeights x = new LychWeights();
        Check.type(x, "d1;d2;d3;d4;");
        x.clear();
        check.due("letters", 0, x.count(6));
        Check.type(x, "b2;");
        check.due("gate()", 1, x.gate());
        check.due("DEEDS", 0, x.count(0));
        check.due("BEARERS", 1, x.count(2));
        Check.type(x, "x");
        x.clear();
        check.due("gate() of none", 0, x.gate());
        new Twins(check, "a scene", y -> Check.type(y, "d1;")).changesNothing("type and clear()", 4, y -> {
            y.type('x');
            int had = y.clear();
            Check.type(y, "d1;");
            return had;
        });
    }

    private static void itemsMayBeNone() {
        check.promise(4, "ITEMS (none, too)");
        gives("", 0);
        gives(" ", 0);
        gives(" ".repeat(150), 0);
        LychWeights x = Check.read("d1;l1 0;b1;p10;r0;");
        check.due("gate() of none", 0, x.gate());
        for (int what = 0; what < 3; what++) {
            check.due("count(" + what + ")", 0, x.count(what));
        }
    }

    private static void itemsAreAtMostTwenty() {
        check.promise(4, "how many ITEMS: 6 DEEDS, 6 DEAD, 6 BEARERS, PIN, RUST");
        String text = FULL_TEXT + " ".repeat(150 - FULL_TEXT.length());
        gives(text, 20);
        LychWeights x = Check.read(text);
        int[] counts = {6, 6, 6, 99, 9, 0, 0};
        for (int what = 0; what < counts.length; what++) {
            check.due("count(" + what + ")", counts[what], x.count(what));
        }
        check.due("DEEDS of one", 63, x.dead(0, 2));
        check.due("DEEDS of one", 63, x.dead(1, 2));
        check.due("DEEDS of one", 21, x.dead(3, 2));
    }

    private static void itemsAreEachEnded() {
        check.promise(4, "each ended by ;");
        fault("d1d2;", 2);
        fault("d1 b2;", 3);
        fault("l1 0l1 0;", 4);
        fault("l1 0 b1;", 5);
        fault("b1b1;", 2);
        fault("p10r1;", 3);
        fault("r1p10;", 2);
        fault(";", 0);
        fault("d1;;", 3);
        fault("d1; ;", 4);
    }

    private static void blanksMayBeAnyNumber() {
        check.promise(4, "blanks, any number, ahead of, between, behind TOKENS");
        String[] texts = {"b5;", " b5;", "b 5;", "b5 ;", "b5; ", " b 5 ; "};
        for (String text : texts) {
            gives(text, 1);
        }
        for (int ahead = 0; ahead < 3; ahead++) {
            gives("b5;".substring(0, ahead) + " ".repeat(147) + "b5;".substring(ahead), 1);
        }
        gives("b5;" + " ".repeat(147), 1);
        gives("l" + " ".repeat(70) + "1" + " ".repeat(76) + "0;", 1);
        for (int other : new int[] {0, 9, 10, 13, 31, 33, 160}) {
            fault((char) other + "b5;", 0);
            fault("b" + (char) other + "5;", 1);
            fault("b5" + (char) other + ";", 2);
            fault("b5;" + (char) other, 3);
        }
    }

    private static void blanksAreNeededOnlyBetweenNumbers() {
        check.promise(4, "blanks are needed only between two NUMBERS");
        gives("d5;l1 0 0;b7;p10;r1;", 5);
        fault("l10;", 3);
        fault("l103;", 1);
        fault("d5;l1 00;", 6);
        gives("d5;l1 0 0;", 2);
        fault("d5;d5;l1 0 01;", 11);
        gives("d5;d5;l1 0 0 1;", 3);
        fault("d1 0;", 3);
    }

    private static void edges(String ahead, int low, int high, String behind, int place) {
        for (int n = 0; n <= 99; n++) {
            if (n >= low && n <= high) {
                gives(ahead + n + behind, 1);
            } else {
                fault(ahead + n + behind, place);
            }
        }
        fault(ahead + 100 + behind, place);
        fault(ahead + "-1" + behind, place);
        fault(ahead + "+1" + behind, place);
    }

    private static void weightsAreTold0To40() {
        check.promise(4, "WEIGHT (-20 .. 20; told as WEIGHT and 20: 0 .. 40)");
        edges("d", 0, 40, ";", 1);
        for (int told = 0; told <= 40; told++) {
            check.due("WEIGHT told as " + told, told - 20, Check.read("d" + told + ";").deed(0, 0));
        }
    }

    private static void boxesAre1To40() {
        check.promise(4, "BOX (1 .. 40)");
        edges("l", 1, 40, " 0;", 1);
        check.due("BOX", 1, Check.read("l1 0;").dead(0, 0));
        check.due("BOX", 40, Check.read("l40 0;").dead(0, 0));
    }

    private static void flowersAre0To9() {
        check.promise(4, "FLOWERS (0 .. 9)");
        edges("l1 ", 0, 9, ";", 3);
        check.due("FLOWERS", 0, Check.read("l1 0;").dead(0, 1));
        check.due("FLOWERS", 9, Check.read("l1 9;").dead(0, 1));
    }

    private static void strengthsAre1To60() {
        check.promise(4, "STRENGTH (1 .. 60)");
        edges("b", 1, 60, ";", 1);
        check.due("STRENGTH", 1, Check.read("b1;").bearer(0));
        check.due("STRENGTH", 60, Check.read("b60;").bearer(0));
    }

    private static void pinIs10To99() {
        check.promise(4, "PIN (10 .. 99)");
        edges("p", 10, 99, ";", 1);
        check.due("PIN", 10, Check.read("p10;").count(3));
        check.due("PIN", 99, Check.read("p99;").count(3));
    }

    private static void rustIs0To9() {
        check.promise(4, "RUST (0 .. 9)");
        edges("r", 0, 9, ";", 1);
        check.due("RUST", 0, Check.read("r0;").count(4));
        check.due("RUST", 9, Check.read("r9;").count(4));
        check.due("RUST now", 9, Check.read("r9;").now(2));
    }

    private static void numbersStandWhereTheyMust() {
        check.promise(4, "d N, l B F, b N, p N, r N: no fewer, no more");
        for (String letter : new String[] {"d", "b", "p", "r"}) {
            fault(letter + ";", 1);
            fault(letter + letter + "10;", 1);
            gives(letter + (letter.equals("r") ? "1;" : "10;"), 1);
            fault(letter + (letter.equals("r") ? "1 1;" : "10 1;"), letter.equals("r") ? 3 : 4);
        }
        fault("l;", 1);
        fault("ll1 0;", 1);
        fault("l1;", 2);
        fault("l1l0;", 2);
        fault("l1 0 0;", 5);
        fault("7;", 0);
        fault("7d;", 0);
    }

    private static void deedsAreAtMostSix() {
        check.promise(4, "DEEDS: 6 at most; a seventh d");
        gives("d0;".repeat(6), 6);
        fault("d0;".repeat(7), 18);
        fault("d0;".repeat(6) + "d", 18);
        fault("d0;".repeat(6) + "  d41;", 20);
        fault("d0;".repeat(6) + "b1;l1 0;d0;", 26);
        gives("d0;".repeat(6) + "b1;l1 0;p10;r1;", 10);
    }

    private static void deadAreAtMostSix() {
        check.promise(4, "THE DEAD: 6 at most; a seventh l");
        gives("l1 0;".repeat(6), 6);
        fault("l1 0;".repeat(7), 30);
        fault("l1 0;".repeat(6) + "l", 30);
        fault("l1 0;".repeat(6) + " l0", 31);
        fault("l1 0;".repeat(6) + "d1;b1;l1 0;", 36);
        gives("l1 0;".repeat(6) + "d1;b1;p10;r1;", 10);
    }

    private static void bearersAreAtMostSix() {
        check.promise(4, "BEARERS: 6 at most; a seventh b");
        gives("b1;".repeat(6), 6);
        fault("b1;".repeat(7), 18);
        fault("b1;".repeat(6) + "b", 18);
        fault("b1;".repeat(6) + " b0;", 19);
        fault("b1;".repeat(6) + "d1;l1 0;b1;", 26);
        gives("b1;".repeat(6) + "d1;l1 0;p10;r1;", 10);
    }

    private static void pinAndRustAreToldOnce() {
        check.promise(4, "p, r: once at most each");
        gives("p10;r0;", 2);
        gives("r0;p10;", 2);
        fault("p10;p10;", 4);
        fault("p10;p", 4);
        fault("p10;p9;", 4);
        fault("p10;r0;d1;p10;", 10);
        fault("r0;r0;", 3);
        fault("r0;r", 3);
        fault("r0;r10;", 3);
        fault("r0;p10;d1;r0;", 10);
        LychWeights x = Check.read("p10;r0;");
        Check.type(x, "p20;r1;");
        check.due("once more in another TEXT", 2, x.gate());
        check.due("PIN", 20, x.count(3));
        x.type('p');
        check.due("gate() of a p alone", -11, x.gate());
        Check.type(x, "11;");
        check.due("the same p is read anew", 1, x.gate());
    }

    private static void deedsDoneAreNoneToSix() {
        check.promise(4, "0 to 6 DEEDS");
        String six = "d1;d2;d3;d4;d5;d6;";
        String done = "";
        for (int n = 0; n <= 6; n++) {
            LychWeights x = Check.read(six + "l1 0" + done + ";");
            check.due("DEEDS of '" + done + "'", (1 << n) - 1, x.dead(0, 2));
            done += " " + n;
        }
        fault(six + "l1 0 0 1 2 3 4 5 6;", 35);
        fault(six + "l1 0 0 1 2 3 4 5 5;", 35);
        check.due("in any order", 63, Check.read(six + "l1 0 3 5 0 4 1 2;").dead(0, 2));
    }

    private static void deedsDoneAreToldAhead() {
        check.promise(4, "DEEDS told ahead; a DEED that there is not");
        fault("l1 0 0;", 5);
        fault("l1 0 0;d1;", 5);
        gives("d1;l1 0 0;", 2);
        fault("d1;l1 0 1;", 8);
        fault("d1;l1 0 1;d1;", 8);
        gives("d1;l1 0;d1;l1 0 1;", 4);
        fault("d1;l1 0;d1;l1 0 2;", 16);
        gives("d1;d1;d1;d1;d1;d1;l1 0 5;", 7);
        fault("d1;d1;d1;d1;d1;d1;l1 0 6;", 23);
        fault("d1;l1 0 32;", 8);
        fault("d1;l1 0 99;", 8);
    }

    private static void deedsDoneAreUnlike() {
        check.promise(4, "unlike ones; a DEED a second time");
        fault("d1;l1 0 0 0;", 10);
        fault("d1;d1;l1 0 1 0 1;", 15);
        fault("d1;d1;l1 0 0 1 0;", 15);
        fault("d1;d1;d1;d1;d1;d1;l1 0 5 5;", 25);
        gives("d1;l1 0 0;l1 0 0;", 3);
    }

    private static void tokensAreTheseLettersAlone() {
        check.promise(4, "TOKENS are the letters d, l, b, p, r, NUMBERS and ;");
        for (int letter = 0; letter < 256; letter++) {
            char c = (char) letter;
            boolean opens = "dlbpr".indexOf(c) >= 0;
            boolean digit = c >= '0' && c <= '9';
            gives("" + c, opens ? -11 : c == ' ' ? 0 : -10);
            gives("d1;" + c, opens ? -10 - 4 : c == ' ' ? 1 : -10 - 3);
            gives("d1;" + c + ";", opens ? -10 - 4 : c == ' ' ? -10 - 4 : -10 - 3);
            gives("d" + c + ";", digit ? 1 : c == ' ' ? -10 - 2 : -10 - 1);
            gives("d3" + c + ";", digit || c == ' ' ? 1 : c == ';' ? -10 - 3 : -10 - 2);
        }
    }

    private static void numbersAreAtMost99() {
        check.promise(4, "a NUMBER above 99: that TOKEN's");
        gives("p99;", 1);
        fault("p100;", 1);
        fault("p110;", 1);
        fault("p 999 ;", 2);
        fault("d10000;", 1);
        // what they come to in 8, 16, 32 and 64 bits would be a PIN of 20
        for (String wrapped : new String[] {"276", "65556", "4294967316", "18446744073709551636"}) {
            fault("p" + wrapped + ";", 1);
        }
        fault("d1;l1 0 4294967296;", 8);
        fault("d" + "1".repeat(149), 1);
        fault("1".repeat(150), 0);
        fault("100", 0);
        fault("d1 100", 3);
    }

    private static void numbersHaveNo0Ahead() {
        check.promise(4, "a NUMBER with a 0 ahead of others: that TOKEN's");
        gives("d0;", 1);
        fault("d00;", 1);
        fault("d01;", 1);
        fault("d 09;", 2);
        fault("p010;", 1);
        fault("p000000000020;", 1);
        fault("l01 0;", 1);
        fault("l1 00;", 3);
        fault("d1;l1 0 00;", 8);
        fault("b05;", 1);
        fault("r00;", 1);
        gives("d10;", 1);
    }

    private static void faultIsTheTextsLengthIfItEndsTooEarly() {
        check.promise(4, "the text's length, if it ends too early");
        String text = " d3 ;l12 3 0;b7 ; r4;l1 0;";
        int items = 0;
        for (int length = 0; length <= text.length(); length++) {
            String part = text.substring(0, length);
            items += part.endsWith(";") ? 1 : 0;
            boolean between = part.trim().isEmpty() || part.trim().endsWith(";");
            gives(part, between ? items : -10 - length);
        }
        fault("p", 1);
        fault("p1", 1);
        fault("p10", 3);
        fault("p   ", 4);
        fault("b5" + " ".repeat(148), 150);
        fault(" ".repeat(149) + "b", 150);
        gives(" ".repeat(147) + "b5;", 1);
    }

    private static void faultIsThatOfTheFirst() {
        check.promise(4, "FAULT: the first TOKEN that can't stand there");
        fault("d41;x", 1);
        fault("d1;x100", 3);
        fault("d;100", 1);
        fault("b0;b61;p9;r10;", 1);
        fault("d1;l41 10 7;", 4);
        fault("l1 10 7;", 3);
        fault("d1 1 x", 3);
        fault("x", 0);
    }

    private static void faultIsToldBelowMinus10() {
        check.promise(4, "-10 less FAULT");
        for (int place = 0; place < 150; place++) {
            gives(" ".repeat(place) + "x", -10 - place);
        }
        gives("d" + " ".repeat(149), -160);
        gives(" ".repeat(149) + "d", -160);
        gives(" ".repeat(149) + ";", -159);
    }

    private static void faultChangesNothing() {
        check.promise(4, "a FAULT: nothing changes");
        String[] texts = {"x", "d1;l1 0 0;b1;p10;r0;;", "d1;d1;d1;d1;d1;d1;d1;", "l1 0;l1 0;l1 0;l1", "b1;b1;b0;",
            "p99;p99;", "r9;r9;", "r0;d1 1;"};
        int[] places = {0, 20, 18, 17, 7, 4, 3, 6};
        for (int i = 0; i < texts.length; i++) {
            String text = texts[i];
            new Twins(check, "'" + text + "'", x -> {
                RefusedTest.rich(x);
                x.clear();
                Check.type(x, text);
            }).changesNothing("gate()", -10 - places[i], LychWeights::gate);
        }
    }

    private static void textStaysBehindAFault() {
        check.promise(4, "a FAULT: THE TEXT stays, too");
        LychWeights x = new LychWeights();
        Check.type(x, "d1");
        check.due("gate()", -12, x.gate());
        check.due("letters", 2, x.count(6));
        check.due("type", 3, x.type('3'));
        check.due("gate()", -13, x.gate());
        x.type(';');
        check.due("gate()", 1, x.gate());
        check.due("WEIGHT", -7, x.deed(0, 0));
    }

    private static void textIsEmptyBehindGate() {
        check.promise(4, "THE TEXT is empty then");
        LychWeights x = new LychWeights();
        Check.type(x, "d1;d2;");
        check.due("gate()", 2, x.gate());
        check.due("letters", 0, x.count(6));
        check.due("clear()", 0, x.clear());
        Check.type(x, "b5;");
        check.due("gate()", 1, x.gate());
        check.due("DEEDS", 0, x.count(0));
        check.due("gate() of none", 0, x.gate());
        check.due("BEARERS", 0, x.count(2));
    }

    private static void whatIsNotToldIsAsAtFirst() {
        check.promise(4, "what is not told as at first (PIN 80, RUST 2)");
        LychWeights x = Check.read("p10;r9;l40 9;");
        check.due("READS", 10, x.dead(0, 6));
        Check.type(x, "d40;d40;d40;l40 9 0 1 2;");
        check.due("gate()", 4, x.gate());
        check.due("PIN", 80, x.count(3));
        check.due("RUST as told", 2, x.count(4));
        check.due("RUST now", 2, x.now(2));
        check.due("LOAD", 109, x.dead(0, 4));
        check.due("READS: PIN at most", 80, x.dead(0, 6));
        Check.type(x, "p77;l1 0;");
        x.gate();
        check.due("PIN", 77, x.count(3));
        check.due("RUST", 2, x.count(4));
        Check.type(x, "r3;");
        x.gate();
        check.due("PIN", 80, x.count(3));
        check.due("RUST", 3, x.count(4));
        check.due("RUST now", 3, x.now(2));
    }

    private static void whatWasToldIsGone() {
        check.promise(4, "THE TEXT tells all anew: nothing of the one ahead, nor of the one ahead of that");
        LychWeights x = new LychWeights();
        String[] texts = {"d21;d22;l1 5 0 1;l2 5;b5;b6;p20;r1;", "d23;d24;l3 6 0 1;l4 6;b7;b8;p30;r3;", "", "", "d25;l5 0;b9;"};
        int[][] counts = {{2, 2, 2, 20, 1}, {2, 2, 2, 30, 3}, {0, 0, 0, 80, 2}, {0, 0, 0, 80, 2}, {1, 1, 1, 80, 2}};
        int[] items = {8, 8, 0, 0, 3};
        for (int i = 0; i < texts.length; i++) {
            Check.type(x, texts[i]);
            check.due("gate() of '" + texts[i] + "'", items[i], x.gate());
            for (int what = 0; what < 5; what++) {
                check.due("count(" + what + ") behind '" + texts[i] + "'", counts[i][what], x.count(what));
            }
            check.due("RUST behind '" + texts[i] + "'", counts[i][4], x.now(2));
        }
        check.due("FLOWERS", 0, x.dead(0, 1));
        check.due("DEEDS", 0, x.dead(0, 2));
        check.due("who did it", 0, x.deed(0, 1));
        check.due("STRENGTH", 9, x.bearer(0));
    }

    private static void whatWasDoneIsGone() {
        check.promise(4, "Read anew: THE NEEDLE 0, THUMB 0, none CHALKED, nothing TOLD, no IMAGES, nothing to be UNDONE");
        for (String text : new String[] {"", "d21;l40 0;l9 3 0;r7;"}) {
            LychWeights x = Check.read("d21;l40 0;l9 3 0;r7;");
            x.lays(0);
            x.lays(1);
            x.adorns(0, 9);
            x.oils(4);
            x.thumbs(5);
            x.tells(10, 4);
            x.keep(0);
            x.keep(1);
            check.due("THE NEEDLE ahead of gate()", 7, x.now(0));
            Check.type(x, text);
            x.gate();
            int[] nows = {0, 0, text.isEmpty() ? 2 : 7, 0, 0};
            for (int what = 0; what < nows.length; what++) {
                check.due("now(" + what + ")", nows[what], x.now(what));
            }
            check.due("FLOWERS", text.isEmpty() ? LychWeights.NO : 0, x.dead(0, 1));
            check.due("CHALKED", text.isEmpty() ? LychWeights.NO : LychWeights.NONE, x.dead(1, 5));
            check.due("TOLD", 0, x.count(5));
            check.due("undo()", LychWeights.STATE, x.undo());
            check.due("back(0)", LychWeights.STATE, x.back(0));
            check.due("back(1)", LychWeights.STATE, x.back(1));
        }
    }
}
