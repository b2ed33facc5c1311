import java.util.Random;
import java.util.TreeMap;

/** All promises: long runs of mixed calls, each answer as the Oracle's. Seeds are fixed, so runs are the same. */
public final class OracleTest {
    private static final int RUNS = 3000;
    private static final int CALLS = 512;
    private static final String[] NAMES = {"type", "clear", "gate", "deed", "dead", "bearer", "now", "lays", "thumbs",
        "adorns", "sins", "oils", "year", "undo", "order", "tells", "forget", "can", "ask", "life", "carry", "odds",
        "rate", "keep", "back", "count", "trace"};
    private static final int[] ODD = {Integer.MIN_VALUE, Integer.MAX_VALUE, -1, -2, 6, 7, 10, 31, 32, 33, 64, -32, 256};
    private static final TreeMap<String, Integer> seen = new TreeMap<>();

    private final Random random;
    private final LychWeights x = new LychWeights();
    private final Oracle o = new Oracle();
    private final int run;
    private int calls = 0;

    private OracleTest(int run) {
        this.run = run;
        random = new Random(run);
    }

    public static void main(String[] args) {
        for (int run = 0; run < RUNS; run++) {
            new OracleTest(run).runAll();
        }
        boolean allSeen = true;
        for (String wanted : new String[] {"lays:STATE", "sins:STATE", "year:STATE", "undo:STATE", "back:STATE",
            "type:FULL", "tells:FULL", "can:NONE", "ask:NONE", "life:NONE", "carry:NONE", "order:NONE", "gate:FAULT"}) {
            if (!seen.containsKey(wanted)) {
                System.out.println("never met: " + wanted);
                allSeen = false;
            }
        }
        System.out.println("  " + RUNS + " runs of " + CALLS + " calls, all as the Oracle's");
        if (!allSeen) {
            System.exit(1);
        }
    }

    private void runAll() {
        while (calls < CALLS) {
            int pick = random.nextInt(30);
            if (calls == 0 && run % 10 != 0 || random.nextInt(150) == 0) {
                typeText();
            } else if (pick == 29 && run % 7 == 0) {
                call(0, random.nextInt(260) - 2, 0, 0);
            } else {
                int name = 3 + random.nextInt(NAMES.length - 3);
                call(name, argument(name, 0), argument(name, 1), argument(name, 2));
            }
        }
    }

    private void typeText() {
        if (random.nextInt(3) > 0) {
            call(1, 0, 0, 0);
        }
        String text = text();
        for (int i = 0; i < text.length() && calls < CALLS; i++) {
            call(0, text.charAt(i), 0, 0);
        }
        if (random.nextInt(40) == 0) {
            for (int i = text.length(); i < 152 && calls < CALLS; i++) {
                call(0, ' ', 0, 0);
            }
        }
        // what an object answers behind its 512th call is free
        if (calls < CALLS) {
            call(2, 0, 0, 0);
        }
    }

    private String text() {
        StringBuilder t = new StringBuilder();
        int deeds = 0;
        int items = random.nextInt(17) + 4;
        boolean small = random.nextBoolean();
        for (int i = 0; i < items; i++) {
            int pick = random.nextInt(14);
            blanks(t);
            if (pick < 5 && deeds < 6) {
                t.append('d');
                number(t, small ? 17 + random.nextInt(7) : random.nextInt(41));
                deeds++;
            } else if (pick < 8) {
                t.append('l');
                number(t, small ? 1 + random.nextInt(9) : 1 + random.nextInt(40));
                number(t, random.nextInt(10));
                for (int d = 0; d < deeds; d++) {
                    if (random.nextInt(3) == 0) {
                        number(t, d);
                    }
                }
            } else if (pick < 12) {
                t.append('b');
                number(t, small ? 1 + random.nextInt(6) : 1 + random.nextInt(60));
            } else if (pick == 12 && t.indexOf("p") < 0) {
                t.append('p');
                number(t, 10 + random.nextInt(small ? 20 : 90));
            } else if (t.indexOf("r") < 0) {
                t.append('r');
                number(t, random.nextInt(10));
            } else {
                continue;
            }
            blanks(t);
            t.append(';');
        }
        if (random.nextInt(3) == 0) {
            spoil(t);
        }
        return t.toString();
    }

    private void blanks(StringBuilder t) {
        if (random.nextInt(8) == 0) {
            t.append(random.nextBoolean() ? " " : "  ");
        }
    }

    private void number(StringBuilder t, int n) {
        if (Character.isDigit(t.charAt(t.length() - 1))) {
            t.append(' ');
        }
        blanks(t);
        t.append(n);
    }

    private void spoil(StringBuilder t) {
        for (int times = random.nextInt(2); times >= 0 && t.length() > 0; times--) {
            int place = random.nextInt(t.length());
            String letters = "dlbpr; 0123456789x";
            char letter = letters.charAt(random.nextInt(letters.length()));
            switch (random.nextInt(4)) {
                case 0: t.deleteCharAt(place); break;
                case 1: t.insert(place, letter); break;
                case 2: t.setCharAt(place, letter); break;
                default: t.setLength(place); break;
            }
        }
    }

    private int argument(int name, int place) {
        if (random.nextInt(60) == 0) {
            return ODD[random.nextInt(ODD.length)];
        }
        switch (NAMES[name]) {
            case "thumbs": return random.nextInt(21) - 10;
            case "oils": return random.nextInt(11);
            case "adorns": return place == 0 ? random.nextInt(6) : random.nextInt(11);
            case "tells": return place == 0 ? random.nextInt(42) : random.nextInt(101);
            case "life": return place == 0 ? random.nextInt(6) : random.nextInt(4) == 0 ? random.nextInt(203) - 101
                : random.nextInt(41) - 25;
            case "carry": return place == 0 ? random.nextInt(random.nextBoolean() ? 244 : 60) : random.nextInt(4);
            case "odds": return place == 0 ? random.nextInt(12) : place == 1 ? random.nextInt(8) : random.nextInt(3);
            case "order": return random.nextInt(8) - 2;
            case "can": return random.nextInt(4);
            case "keep":
            case "back": return random.nextInt(3);
            default: return random.nextInt(place == 0 ? 7 : 9);
        }
    }

    private void call(int name, int a, int b, int c) {
        calls++;
        if (NAMES[name].equals("tells") && random.nextInt(2) == 0 && a >= 1 && a <= 40 && o.count(1) > 0) {
            // a reading that some set of DEEDS gives, so that CAN isn't always none
            b = Math.max(0, Math.min(99, a + random.nextInt(12) - 6 - o.now(2)));
        }
        long got = ofProgram(name, a, b, c);
        long want = ofOracle(name, a, b, c);
        if (got != want) {
            System.out.println("run " + run + ", call " + calls + ": " + NAMES[name] + "(" + a + ", " + b + ", " + c
                + ") answered " + got + ", the Oracle's is " + want);
            System.exit(1);
        }
        String told = got == -2 ? "STATE" : got == -3 ? "FULL" : got == -9 ? "NONE" : got <= -10 ? "FAULT" : "";
        seen.merge(NAMES[name] + ":" + told, 1, Integer::sum);
    }

    private long ofProgram(int name, int a, int b, int c) {
        switch (NAMES[name]) {
            case "type": return x.type(a);
            case "clear": return x.clear();
            case "gate": return x.gate();
            case "deed": return x.deed(a, b % 3);
            case "dead": return x.dead(a, b);
            case "bearer": return x.bearer(a);
            case "now": return x.now(a);
            case "lays": return x.lays(a);
            case "thumbs": return x.thumbs(a);
            case "adorns": return x.adorns(a, b);
            case "sins": return x.sins(a, b);
            case "oils": return x.oils(a);
            case "year": return x.year();
            case "undo": return x.undo();
            case "order": return x.order(a);
            case "tells": return x.tells(a, b);
            case "forget": return x.forget();
            case "can": return x.can(a);
            case "ask": return x.ask();
            case "life": return x.life(a, b);
            case "carry": return x.carry(a, b);
            case "odds": return x.odds(a, b, c);
            case "rate": return x.rate(a, b);
            case "keep": return x.keep(a);
            case "back": return x.back(a);
            case "count": return x.count(a);
            default: return x.trace();
        }
    }

    private long ofOracle(int name, int a, int b, int c) {
        switch (NAMES[name]) {
            case "type": return o.type(a);
            case "clear": return o.clear();
            case "gate": return o.gate();
            case "deed": return o.deed(a, b % 3);
            case "dead": return o.dead(a, b);
            case "bearer": return o.bearer(a);
            case "now": return o.now(a);
            case "lays": return o.lays(a);
            case "thumbs": return o.thumbs(a);
            case "adorns": return o.adorns(a, b);
            case "sins": return o.sins(a, b);
            case "oils": return o.oils(a);
            case "year": return o.year();
            case "undo": return o.undo();
            case "order": return o.order(a);
            case "tells": return o.tells(a, b);
            case "forget": return o.forget();
            case "can": return o.can(a);
            case "ask": return o.ask();
            case "life": return o.life(a, b);
            case "carry": return o.carry(a, b);
            case "odds": return o.odds(a, b, c);
            case "rate": return o.rate(a, b);
            case "keep": return o.keep(a);
            case "back": return o.back(a);
            case "count": return o.count(a);
            default: return o.trace();
        }
    }
}
