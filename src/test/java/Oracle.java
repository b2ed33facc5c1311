import java.math.BigInteger;
import java.util.ArrayDeque;
import java.util.ArrayList;
import java.util.Arrays;
import java.util.Comparator;
import java.util.Deque;
import java.util.HashMap;
import java.util.List;
import java.util.Map;
import java.util.TreeSet;
import java.util.regex.Matcher;
import java.util.regex.Pattern;

/** The document once more, written in another way and with the library, to compare long runs with. */
final class Oracle {
    static final int BAD = -1, STATE = -2, FULL = -3, NONE = -9, NO = -1000000;
    private static final Pattern TOKEN = Pattern.compile("[0-9]+|[^ ]", Pattern.DOTALL);

    private static final class Soul {
        int box;
        int flowers;
        TreeSet<Integer> deeds = new TreeSet<>();
        Integer chalked;

        Soul copy() {
            Soul s = new Soul();
            s.box = box;
            s.flowers = flowers;
            s.deeds = new TreeSet<>(deeds);
            s.chalked = chalked;
            return s;
        }
    }

    private static final class Now {
        int needle;
        int thumb;
        int rust = 2;
        List<Soul> souls = new ArrayList<>();

        Now copy() {
            Now n = new Now();
            n.needle = needle;
            n.thumb = thumb;
            n.rust = rust;
            for (Soul s : souls) {
                n.souls.add(s.copy());
            }
            return n;
        }
    }

    private static final class Fault extends RuntimeException {
        final int place;

        Fault(int place) {
            super(null, null, false, false);
            this.place = place;
        }
    }

    private String text = "";
    private List<Integer> weights = new ArrayList<>();
    private List<Integer> strengths = new ArrayList<>();
    private int pin = 80;
    private int toldRust = 2;
    private Now now = new Now();
    private final Deque<Now> past = new ArrayDeque<>();
    private final Map<Integer, Now> images = new HashMap<>();
    private final List<int[]> told = new ArrayList<>();
    private long trace = 0;

    // ---- the gate

    int type(int letter) {
        if (letter < 0 || letter > 255) return BAD;
        if (text.length() == 150) return FULL;
        text += (char) letter;
        return text.length();
    }

    int clear() {
        int n = text.length();
        text = "";
        return n;
    }

    int gate() {
        List<String> tokens = new ArrayList<>();
        List<Integer> places = new ArrayList<>();
        Matcher m = TOKEN.matcher(text);
        while (m.find()) {
            tokens.add(m.group());
            places.add(m.start());
        }
        Oracle read = new Oracle();
        int items = 0;
        try {
            int at = 0;
            TreeSet<String> once = new TreeSet<>();
            while (at < tokens.size()) {
                String head = tokens.get(at);
                int place = places.get(at);
                List<Integer> numbers = new ArrayList<>();
                List<Integer> where = new ArrayList<>();
                if (!List.of("d", "l", "b", "p", "r").contains(head)) throw new Fault(place);
                if ("pr".contains(head) && !once.add(head)) throw new Fault(place);
                if (head.equals("d") && read.weights.size() == 6) throw new Fault(place);
                if (head.equals("b") && read.strengths.size() == 6) throw new Fault(place);
                if (head.equals("l") && read.now.souls.size() == 6) throw new Fault(place);
                at++;
                boolean ended = false;
                while (!ended) {
                    if (at == tokens.size()) {
                        throw new Fault(text.length());
                    }
                    String t = tokens.get(at);
                    int least = head.equals("l") ? 2 : 1;
                    if (t.equals(";") && numbers.size() >= least) {
                        ended = true;
                    } else if (t.matches("0|[1-9][0-9]?") && read.mayFollow(head, numbers, Integer.parseInt(t))) {
                        numbers.add(Integer.parseInt(t));
                        where.add(places.get(at));
                    } else {
                        throw new Fault(places.get(at));
                    }
                    at++;
                }
                read.take(head, numbers);
                items++;
            }
        } catch (Fault f) {
            return -10 - f.place;
        }
        text = "";
        weights = read.weights;
        strengths = read.strengths;
        pin = read.pin;
        toldRust = read.toldRust;
        now = read.now;
        now.rust = toldRust;
        past.clear();
        images.clear();
        told.clear();
        return items;
    }

    private boolean mayFollow(String head, List<Integer> ahead, int n) {
        int i = ahead.size();
        switch (head) {
            case "d": return i == 0 && n <= 40;
            case "b": return i == 0 && n >= 1 && n <= 60;
            case "p": return i == 0 && n >= 10;
            case "r": return i == 0 && n <= 9;
            default:
                if (i == 0) return n >= 1 && n <= 40;
                if (i == 1) return n <= 9;
                return n < weights.size() && !ahead.subList(2, i).contains(n);
        }
    }

    private void take(String head, List<Integer> n) {
        switch (head) {
            case "d": weights.add(n.get(0) - 20); break;
            case "b": strengths.add(n.get(0)); break;
            case "p": pin = n.get(0); break;
            case "r": toldRust = n.get(0); break;
            default:
                Soul s = new Soul();
                s.box = n.get(0);
                s.flowers = n.get(1);
                s.deeds.addAll(n.subList(2, n.size()));
                now.souls.add(s);
        }
    }

    int deed(int d, int what) {
        if (d < 0 || d >= weights.size() || what < 0 || what > 1) return NO;
        return what == 0 ? weights.get(d) : doers(d);
    }

    private int doers(int d) {
        int bits = 0;
        for (int l = 0; l < now.souls.size(); l++) {
            if (now.souls.get(l).deeds.contains(d)) bits += (int) Math.pow(2, l);
        }
        return bits;
    }

    private static int bits(Iterable<Integer> set) {
        int b = 0;
        for (int i : set) b += (int) Math.pow(2, i);
        return b;
    }

    private int sum(Soul s) {
        int all = s.box + s.flowers;
        for (int d : s.deeds) all += weights.get(d);
        return all;
    }

    private int move(int needle, int load) {
        return Math.min(pin, Math.max(load - now.rust, Math.min(needle, load + now.rust)));
    }

    private int load(Soul s, int thumb) {
        int all = sum(s) + thumb;
        return all < 0 ? 0 : all;
    }

    int dead(int l, int what) {
        if (l < 0 || l >= now.souls.size() || what < 0 || what > 7) return NO;
        Soul s = now.souls.get(l);
        int[] all = {s.box, s.flowers, bits(s.deeds), sum(s) - s.box - s.flowers, load(s, now.thumb),
            s.chalked == null ? NONE : s.chalked, move(now.needle, load(s, now.thumb)),
            s.chalked == null ? NO : s.chalked - sum(s)};
        return all[what];
    }

    int bearer(int b) {
        return b < 0 || b >= strengths.size() ? BAD : strengths.get(b);
    }

    int now(int what) {
        int chalked = 0;
        for (int l = 0; l < now.souls.size(); l++) {
            if (now.souls.get(l).chalked != null) chalked += 1 << l;
        }
        int[] all = {now.needle, now.thumb, now.rust, chalked, past.size()};
        return what < 0 || what > 4 ? NO : all[what];
    }

    // ---- what is done

    private void known() {
        past.addLast(now.copy());
        if (past.size() > 10) past.removeFirst();
    }

    int lays(int l) {
        if (l < 0 || l >= now.souls.size()) return BAD;
        if (now.souls.get(l).chalked != null) return STATE;
        known();
        Soul s = now.souls.get(l);
        now.needle = move(now.needle, load(s, now.thumb));
        s.chalked = now.needle;
        now.needle = move(now.needle, 0);
        now.thumb = 0;
        return s.chalked;
    }

    int thumbs(int n) {
        if (n < -9 || n > 9) return NO;
        known();
        int was = now.thumb;
        now.thumb = n;
        return was;
    }

    int adorns(int l, int n) {
        if (l < 0 || l >= now.souls.size() || n < 0 || n > 9) return BAD;
        known();
        int was = now.souls.get(l).flowers;
        now.souls.get(l).flowers = n;
        return was;
    }

    int sins(int l, int d) {
        if (l < 0 || l >= now.souls.size() || d < 0 || d >= weights.size()) return BAD;
        if (now.souls.get(l).chalked != null || now.souls.get(l).deeds.contains(d)) return STATE;
        known();
        now.souls.get(l).deeds.add(d);
        return now.souls.get(l).deeds.size();
    }

    int oils(int n) {
        if (n < 0 || n > 9) return BAD;
        known();
        int was = now.rust;
        now.rust = n;
        return was;
    }

    int year() {
        if (now.rust == 9) return STATE;
        known();
        return ++now.rust;
    }

    int undo() {
        if (past.isEmpty()) return STATE;
        now = past.removeLast();
        return past.size();
    }

    // ---- what it tells

    private static void orders(List<Integer> ahead, List<Integer> rest, List<List<Integer>> all) {
        if (rest.isEmpty()) all.add(new ArrayList<>(ahead));
        for (Integer l : rest) {
            List<Integer> next = new ArrayList<>(ahead);
            next.add(l);
            List<Integer> left = new ArrayList<>(rest);
            left.remove(l);
            orders(next, left, all);
        }
    }

    int order(int k) {
        if (k < -1 || k > 5) return BAD;
        List<Integer> open = new ArrayList<>();
        for (int l = 0; l < now.souls.size(); l++) {
            if (now.souls.get(l).chalked == null) open.add(l);
        }
        List<List<Integer>> all = new ArrayList<>();
        orders(new ArrayList<>(), open, all);
        int least = Integer.MAX_VALUE;
        List<Integer> best = null;
        for (List<Integer> way : all) {
            int needle = now.needle;
            int thumb = now.thumb;
            int off = 0;
            for (int l : way) {
                int load = load(now.souls.get(l), thumb);
                needle = move(needle, load);
                off += Math.abs(needle - load);
                needle = move(needle, 0);
                thumb = 0;
            }
            if (off < least) {
                least = off;
                best = way;
            }
        }
        if (k == -1) return least;
        return k < best.size() ? best.get(k) : NONE;
    }

    int tells(int b, int v) {
        if (b < 1 || b > 40 || v < 0 || v > 99) return BAD;
        if (told.size() == 6) return FULL;
        told.add(new int[] {b, v});
        return told.size();
    }

    int forget() {
        int n = told.size();
        told.clear();
        return n;
    }

    private List<Integer> sets() {
        List<Integer> found = new ArrayList<>();
        for (int set = 0; set < Math.pow(2, weights.size()); set++) {
            int soul = weigh(set, weights);
            boolean so = true;
            for (int[] t : told) {
                so &= move(0, Math.max(0, t[0] + soul)) == t[1];
            }
            if (so) found.add(set);
        }
        return found;
    }

    private static int weigh(int set, List<Integer> of) {
        int all = 0;
        for (int i = 0; i < of.size(); i++) {
            if ((set >> i) % 2 == 1) all += of.get(i);
        }
        return all;
    }

    int can(int what) {
        List<Integer> sets = sets();
        if (what == 0) return sets.size();
        if (what == 1) return sets.stream().reduce((a, b) -> a & b).orElse(NONE);
        if (what == 2) return sets.stream().reduce(0, (a, b) -> a | b);
        return BAD;
    }

    int ask() {
        List<Integer> sets = sets();
        if (sets.size() <= 1) return NONE;
        List<int[]> candidates = new ArrayList<>();
        for (int d = 0; d < weights.size(); d++) {
            int bit = d;
            int with = (int) sets.stream().filter(s -> (s >> bit) % 2 == 1).count();
            candidates.add(new int[] {Math.max(with, sets.size() - with), d});
        }
        candidates.sort(Arrays::compare);
        return candidates.get(0)[1];
    }

    // ---- lives, bearers

    int life(int l, int s) {
        if (l < 0 || l >= now.souls.size() || s < -99 || s > 99) return BAD;
        int done = bits(now.souls.get(l).deeds);
        List<int[]> fitting = new ArrayList<>();
        for (int more = 0; more < Math.pow(2, weights.size()); more++) {
            if ((more & done) == 0 && weigh(more + done, weights) <= s) {
                fitting.add(new int[] {Integer.bitCount(more), more});
            }
        }
        fitting.sort(Arrays::compare);
        return fitting.isEmpty() ? NONE : fitting.get(0)[1];
    }

    int carry(int w, int what) {
        if (w < 1 || w > 240 || what < 0 || what > 2) return BAD;
        List<int[]> ways = new ArrayList<>();
        int n = strengths.size();
        for (int a = 0; a < n; a++) {
            for (int b = a + 1; b < n; b++) {
                for (int c = 0; c < n; c++) {
                    for (int d = c + 1; d < n; d++) {
                        if (a == c || a == d || b == c || b == d) continue;
                        int left = strengths.get(a) + strengths.get(b);
                        int right = strengths.get(c) + strengths.get(d);
                        if (left + right < w) continue;
                        int leftBits = (1 << a) + (1 << b);
                        int all = leftBits + (1 << c) + (1 << d);
                        ways.add(new int[] {Math.abs(left - right), left + right, all, leftBits});
                    }
                }
            }
        }
        int[] best = ways.stream().min(Comparator.<int[]>comparingInt(x -> x[0]).thenComparingInt(x -> x[1])
            .thenComparingInt(x -> x[2]).thenComparingInt(x -> x[3])).orElse(null);
        if (best == null) return NONE;
        return what == 0 ? best[2] : what == 1 ? best[3] : best[0];
    }

    int odds(int x, int k, int what) {
        if (x < 0 || x > 10 || k < 0 || k > 6 || what < 0 || what > 1) return BAD;
        BigInteger[] by = new BigInteger[8];
        Arrays.fill(by, BigInteger.ZERO);
        by[0] = BigInteger.ONE;
        for (int b = 0; b < strengths.size(); b++) {
            for (int i = 7; i >= 0; i--) {
                BigInteger lean = i == 0 ? BigInteger.ZERO : by[i - 1].multiply(BigInteger.valueOf(x));
                by[i] = by[i].multiply(BigInteger.valueOf(10 - x)).add(lean);
            }
        }
        BigInteger upper = BigInteger.ZERO;
        for (int i = 0; i <= k; i++) upper = upper.add(by[i]);
        BigInteger lower = BigInteger.TEN.pow(strengths.size());
        BigInteger both = upper.gcd(lower);
        return (what == 0 ? upper : lower).divide(both).intValue();
    }

    // ---- kinds, images

    private class Kind {
        int of(int d) {
            trace += 1;
            return weights.get(d);
        }
    }

    private class Debt extends Kind {
        @Override int of(int d) {
            trace += 10;
            return super.of(d) + Integer.bitCount(doers(d));
        }
    }

    private class Lie extends Kind {
        @Override int of(int d) {
            trace += 100;
            return super.of(d) - now.rust;
        }
    }

    private class Oath extends Debt {
        @Override int of(int d) {
            trace += 1000;
            int up = super.of(d);
            return up + up;
        }
    }

    private class Kiss extends Lie {
        @Override int of(int d) {
            trace += 10000;
            return super.of(d) + d;
        }
    }

    private class Theft extends Kind {
        @Override int of(int d) {
            trace += 100000;
            return super.of(d) + now.needle;
        }
    }

    int rate(int kind, int d) {
        if (kind < 0 || kind > 5 || d < 0 || d >= weights.size()) return NO;
        return new Kind[] {new Kind(), new Debt(), new Lie(), new Oath(), new Kiss(), new Theft()}[kind].of(d);
    }

    int keep(int image) {
        if (image != 0 && image != 1) return BAD;
        images.put(image, now.copy());
        return now.needle;
    }

    int back(int image) {
        if (image != 0 && image != 1) return BAD;
        if (!images.containsKey(image)) return STATE;
        now = images.get(image).copy();
        past.clear();
        return now.needle;
    }

    int count(int what) {
        int[] all = {weights.size(), now.souls.size(), strengths.size(), pin, toldRust, told.size(), text.length()};
        return what < 0 || what > 6 ? BAD : all[what];
    }

    long trace() {
        return trace;
    }
}
