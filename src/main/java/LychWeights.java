/** A lychgate that weighs the dead. Words in capitals are those of the document. */
public final class LychWeights {
    public static final int BAD = -1, STATE = -2, FULL = -3, NONE = -9;
    public static final int NO = -1000000;

    /** No more than this of DEEDS, THE DEAD, BEARERS, and of what is TOLD. */
    private static final int MOST = 6;
    private static final int MOST_LETTERS = 150;
    private static final int MOST_UNDONE = 10;
    private static final int MOST_IMAGES = 2;
    private static final int MOST_BOX = 40;
    private static final int MOST_FLOWERS = 9;
    private static final int MOST_RUST = 9;
    private static final int MOST_THUMB = 9;
    private static final int MOST_PIN = 99;
    private static final int MOST_STRENGTH = 60;
    private static final int MOST_SOUL = 99;
    /** WEIGHTS stand in THE TEXT this much higher, for it has no sign. */
    private static final int WEIGHT_SHIFT = 20;
    private static final int TENTHS = 10;
    /** Six LOADS of some 180 at most can't come near it. */
    private static final int ABOVE_ALL_ERRORS = 1000000;
    private static final int NO_FAULT = -1;
    private static final int FAULT_SHIFT = -10;

    private final Row letters;
    private int letterCount;
    private final Reader reader;
    private Parish parish;
    /** Read into first, so that a FAULT leaves the parish as it was. */
    private Parish draft;
    private final Scene scene;
    private final History history;
    /** What each weighs without THUMB: ORDER weighs them anew, once, ahead of trying all orders. */
    private final Row burdens;
    private final Shelf images;
    private int keptImages;
    private final Row toldBoxes;
    private final Row toldReadings;
    private int toldCount;
    private long traceSum;

    public LychWeights() {
        letters = new Row(MOST_LETTERS);
        reader = new Reader(letters);
        parish = new Parish();
        draft = new Parish();
        scene = new Scene();
        scene.begin(parish);
        history = new History();
        burdens = new Row(MOST);
        images = new Shelf(MOST_IMAGES);
        toldBoxes = new Row(MOST);
        toldReadings = new Row(MOST);
    }

    // ---- the gate

    public int type(int letter) {
        if (!isWithin(letter, 0, 255)) {
            return BAD;
        }
        if (letterCount >= MOST_LETTERS) {
            return FULL;
        }
        letters.put(letterCount, letter);
        letterCount++;
        return letterCount;
    }

    public int clear() {
        int had = letterCount;
        letterCount = 0;
        return had;
    }

    public int gate() {
        int fault = reader.read(letterCount, draft);
        if (fault != NO_FAULT) {
            return FAULT_SHIFT - fault;
        }
        Parish former = parish;
        parish = draft;
        draft = former;
        scene.begin(parish);
        history.loseAll();
        keptImages = 0;
        toldCount = 0;
        letterCount = 0;
        return parish.items;
    }

    public int deed(int d, int what) {
        if (!parish.hasDeed(d)) {
            return NO;
        }
        switch (what) {
            case 0: return parish.weights.at(d);
            case 1: return whoDid(d);
            default: return NO;
        }
    }

    public int dead(int l, int what) {
        if (!parish.hasDead(l)) {
            return NO;
        }
        switch (what) {
            case 0: return parish.boxes.at(l);
            case 1: return scene.flowers.at(l);
            case 2: return scene.sins.at(l);
            case 3: return parish.weights.sumOf(scene.sins.at(l));
            case 4: return loadOf(l);
            case 5: return scene.chalk.at(l);
            case 6: return readingOf(l);
            case 7: return errorOf(l);
            default: return NO;
        }
    }

    public int bearer(int b) {
        return parish.hasBearer(b) ? parish.strengths.at(b) : BAD;
    }

    public int now(int what) {
        switch (what) {
            case 0: return scene.needle;
            case 1: return scene.thumb;
            case 2: return scene.rust;
            case 3: return whoIsChalked();
            case 4: return history.known;
            default: return NO;
        }
    }

    // ---- what is done

    public int lays(int l) {
        if (!parish.hasDead(l)) {
            return BAD;
        }
        if (scene.isChalked(l)) {
            return STATE;
        }
        history.remember(scene);
        int reading = readingOf(l);
        scene.chalk.put(l, reading);
        scene.needle = needleBy(reading, 0);
        scene.thumb = 0;
        return reading;
    }

    public int thumbs(int n) {
        if (!isWithin(n, -MOST_THUMB, MOST_THUMB)) {
            return NO;
        }
        history.remember(scene);
        int former = scene.thumb;
        scene.thumb = n;
        return former;
    }

    public int adorns(int l, int n) {
        if (!parish.hasDead(l) || !isWithin(n, 0, MOST_FLOWERS)) {
            return BAD;
        }
        history.remember(scene);
        int former = scene.flowers.at(l);
        scene.flowers.put(l, n);
        return former;
    }

    public int sins(int l, int d) {
        if (!parish.hasDead(l) || !parish.hasDeed(d)) {
            return BAD;
        }
        int done = scene.sins.at(l);
        if (scene.isChalked(l) || isIn(done, d)) {
            return STATE;
        }
        history.remember(scene);
        scene.sins.put(l, done | bit(d));
        return Integer.bitCount(done) + 1;
    }

    public int oils(int n) {
        if (!isWithin(n, 0, MOST_RUST)) {
            return BAD;
        }
        history.remember(scene);
        int former = scene.rust;
        scene.rust = n;
        return former;
    }

    public int year() {
        if (scene.rust >= MOST_RUST) {
            return STATE;
        }
        history.remember(scene);
        scene.rust++;
        return scene.rust;
    }

    public int undo() {
        if (history.known == 0) {
            return STATE;
        }
        history.recall(scene);
        return history.known;
    }

    // ---- what it tells

    public int order(int k) {
        if (!isWithin(k, -1, MOST - 1)) {
            return BAD;
        }
        for (int l = 0; l < parish.dead; l++) {
            burdens.put(l, burdenOf(l));
        }
        int left = allOf(parish.dead) & ~whoIsChalked();
        if (k < 0) {
            return leastError(left, scene.needle, scene.thumb, 0);
        }
        return inOrder(k, left);
    }

    public int tells(int b, int v) {
        if (!isWithin(b, 1, MOST_BOX) || !isWithin(v, 0, MOST_PIN)) {
            return BAD;
        }
        if (toldCount >= MOST) {
            return FULL;
        }
        toldBoxes.put(toldCount, b);
        toldReadings.put(toldCount, v);
        toldCount++;
        return toldCount;
    }

    public int forget() {
        int had = toldCount;
        toldCount = 0;
        return had;
    }

    public int can(int what) {
        switch (what) {
            case 0: return setsWith(0);
            case 1: return deedsInAllSets();
            case 2: return deedsInSomeSets();
            default: return BAD;
        }
    }

    public int ask() {
        int all = setsWith(0);
        if (all <= 1) {
            return NONE;
        }
        int best = NONE;
        int least = all + 1;
        for (int d = 0; d < parish.deeds; d++) {
            int with = setsWith(bit(d));
            int greater = Math.max(with, all - with);
            if (greater < least) {
                least = greater;
                best = d;
            }
        }
        return best;
    }

    // ---- lives, bearers

    public int life(int l, int s) {
        if (!parish.hasDead(l) || !isWithin(s, -MOST_SOUL, MOST_SOUL)) {
            return BAD;
        }
        int done = scene.sins.at(l);
        int best = NONE;
        int fewest = MOST + 1;
        for (int more = 0; more <= allOf(parish.deeds); more++) {
            boolean fits = (more & done) == 0 && parish.weights.sumOf(more | done) <= s;
            if (fits && Integer.bitCount(more) < fewest) {
                fewest = Integer.bitCount(more);
                best = more;
            }
        }
        return best;
    }

    public int carry(int w, int what) {
        if (!isWithin(w, 1, 4 * MOST_STRENGTH) || !isWithin(what, 0, 2)) {
            return BAD;
        }
        int way = bestWay(w);
        if (way == NONE) {
            return NONE;
        }
        switch (what) {
            case 0: return fourOf(way);
            case 1: return leftOf(way);
            default: return unevenness(way);
        }
    }

    public int odds(int x, int k, int what) {
        if (!isWithin(x, 0, TENTHS) || !isWithin(k, 0, MOST) || !isWithin(what, 0, 1)) {
            return BAD;
        }
        int part = partLeaning(x, k);
        int whole = power(TENTHS, parish.bearers);
        int divisor = commonDivisor(part, whole);
        return (what == 0 ? part : whole) / divisor;
    }

    // ---- kinds, images

    public int rate(int kind, int d) {
        if (!parish.hasDeed(d)) {
            return NO;
        }
        switch (kind) {
            case 0: return rateAsDeed(d);
            case 1: return rateAsDebt(d);
            case 2: return rateAsLie(d);
            case 3: return rateAsOath(d);
            case 4: return rateAsKiss(d);
            case 5: return rateAsTheft(d);
            default: return NO;
        }
    }

    public int keep(int image) {
        if (!isWithin(image, 0, MOST_IMAGES - 1)) {
            return BAD;
        }
        images.put(image, scene);
        keptImages |= bit(image);
        return scene.needle;
    }

    public int back(int image) {
        if (!isWithin(image, 0, MOST_IMAGES - 1)) {
            return BAD;
        }
        if (!isIn(keptImages, image)) {
            return STATE;
        }
        images.copyTo(image, scene);
        history.loseAll();
        return scene.needle;
    }

    public int count(int what) {
        switch (what) {
            case 0: return parish.deeds;
            case 1: return parish.dead;
            case 2: return parish.bearers;
            case 3: return parish.pin;
            case 4: return parish.rust;
            case 5: return toldCount;
            case 6: return letterCount;
            default: return BAD;
        }
    }

    public long trace() {
        return traceSum;
    }

    // ---- numbers and sets (a set of numbers 0 .. is a whole number's bits)

    private static boolean isWithin(int n, int low, int high) {
        return n >= low && n <= high;
    }

    private static int bit(int i) {
        return 1 << i;
    }

    private static boolean isIn(int set, int i) {
        return (set & 1 << i) != 0;
    }

    private static int allOf(int size) {
        return (1 << size) - 1;
    }

    private static int power(int base, int exponent) {
        int product = 1;
        for (int i = 0; i < exponent; i++) {
            product *= base;
        }
        return product;
    }

    /** 1 at least, so that it may always divide. */
    private static int commonDivisor(int part, int whole) {
        int larger = whole;
        int smaller = part;
        // Euclid takes far fewer steps than an int has bits, twice over
        for (int i = 0; i < 64 && smaller > 0; i++) {
            int rest = larger % smaller;
            larger = smaller;
            smaller = rest;
        }
        return Math.max(1, larger);
    }

    // ---- the needle

    private int needleBy(int needle, int load) {
        int moved = needle;
        if (needle < load - scene.rust) {
            moved = load - scene.rust;
        } else if (needle > load + scene.rust) {
            moved = load + scene.rust;
        }
        return Math.min(moved, parish.pin);
    }

    /** BOX, FLOWERS and SOUL together: below 0, too. */
    private int burdenOf(int l) {
        return parish.boxes.at(l) + scene.flowers.at(l) + parish.weights.sumOf(scene.sins.at(l));
    }

    private static int loadBy(int burden, int more) {
        return Math.max(0, burden + more);
    }

    private int loadOf(int l) {
        return loadBy(burdenOf(l), scene.thumb);
    }

    private int readingOf(int l) {
        return needleBy(scene.needle, loadOf(l));
    }

    private int errorOf(int l) {
        return scene.isChalked(l) ? scene.chalk.at(l) - burdenOf(l) : NO;
    }

    private int whoIsChalked() {
        int who = 0;
        for (int l = 0; l < parish.dead; l++) {
            if (scene.isChalked(l)) {
                who |= bit(l);
            }
        }
        return who;
    }

    private int whoDid(int d) {
        int who = 0;
        for (int l = 0; l < parish.dead; l++) {
            if (isIn(scene.sins.at(l), d)) {
                who |= bit(l);
            }
        }
        return who;
    }

    // ---- orders

    /** The least by which all who are left can differ; depth tells how many have been LAID ahead. */
    private int leastError(int left, int needle, int thumb, int depth) {
        if (left == 0 || depth >= MOST) {
            return 0;
        }
        int least = ABOVE_ALL_ERRORS;
        for (int l = 0; l < parish.dead; l++) {
            if (isIn(left, l)) {
                least = Math.min(least, leastErrorFrom(l, left, needle, thumb, depth));
            }
        }
        return least;
    }

    private int leastErrorFrom(int l, int left, int needle, int thumb, int depth) {
        int load = loadBy(burdens.at(l), thumb);
        int reading = needleBy(needle, load);
        int rest = leastError(left & ~bit(l), needleBy(reading, 0), 0, depth + 1);
        return Math.abs(reading - load) + rest;
    }

    /** Takes the lowest who still leads to the least, step by step: so the first of all such orders. */
    private int inOrder(int k, int all) {
        int left = all;
        int needle = scene.needle;
        int thumb = scene.thumb;
        int picked = NONE;
        for (int step = 0; step <= k; step++) {
            picked = bestNext(left, needle, thumb, step);
            if (picked == NONE) {
                return NONE;
            }
            needle = needleBy(needleBy(needle, loadBy(burdens.at(picked), thumb)), 0);
            thumb = 0;
            left &= ~bit(picked);
        }
        return picked;
    }

    private int bestNext(int left, int needle, int thumb, int depth) {
        int best = NONE;
        int least = ABOVE_ALL_ERRORS;
        for (int l = 0; l < parish.dead; l++) {
            int error = isIn(left, l) ? leastErrorFrom(l, left, needle, thumb, depth) : ABOVE_ALL_ERRORS;
            if (error < least) {
                least = error;
                best = l;
            }
        }
        return best;
    }

    // ---- what was TOLD

    private boolean explainsAll(int set) {
        int soul = parish.weights.sumOf(set);
        for (int t = 0; t < toldCount; t++) {
            if (needleBy(0, loadBy(toldBoxes.at(t), soul)) != toldReadings.at(t)) {
                return false;
            }
        }
        return true;
    }

    /** How many sets that have all of these DEEDS explain all that was TOLD. */
    private int setsWith(int deeds) {
        int sets = 0;
        for (int set = 0; set <= allOf(parish.deeds); set++) {
            if ((set & deeds) == deeds && explainsAll(set)) {
                sets++;
            }
        }
        return sets;
    }

    private int deedsInAllSets() {
        int all = setsWith(0);
        if (all == 0) {
            return NONE;
        }
        int deeds = 0;
        for (int d = 0; d < parish.deeds; d++) {
            if (setsWith(bit(d)) == all) {
                deeds |= bit(d);
            }
        }
        return deeds;
    }

    private int deedsInSomeSets() {
        int deeds = 0;
        for (int d = 0; d < parish.deeds; d++) {
            if (setsWith(bit(d)) > 0) {
                deeds |= bit(d);
            }
        }
        return deeds;
    }

    // ---- bearers

    /** A way is one number, all four's bits above those of the left: a lower way is the first of equals. */
    private static int wayOf(int four, int left) {
        return four << MOST | left;
    }

    private static int fourOf(int way) {
        return way >> MOST;
    }

    private static int leftOf(int way) {
        return way & allOf(MOST);
    }

    private int unevenness(int way) {
        int left = leftOf(way);
        int right = fourOf(way) & ~left;
        return Math.abs(parish.strengths.sumOf(left) - parish.strengths.sumOf(right));
    }

    private boolean isBetter(int way, int than) {
        int uneven = unevenness(way);
        int unevenThan = unevenness(than);
        if (uneven != unevenThan) {
            return uneven < unevenThan;
        }
        return parish.strengths.sumOf(fourOf(way)) < parish.strengths.sumOf(fourOf(than));
    }

    private int bestWay(int w) {
        int best = NONE;
        for (int four = 0; four <= allOf(parish.bearers); four++) {
            if (Integer.bitCount(four) == 4 && parish.strengths.sumOf(four) >= w) {
                best = betterWay(four, best);
            }
        }
        return best;
    }

    private int betterWay(int four, int than) {
        int best = than;
        for (int left = 0; left < four; left++) {
            boolean isHalf = (left & ~four) == 0 && Integer.bitCount(left) == 2;
            if (isHalf && (best == NONE || isBetter(wayOf(four, left), best))) {
                best = wayOf(four, left);
            }
        }
        return best;
    }

    private int partLeaning(int x, int k) {
        int part = 0;
        for (int who = 0; who <= allOf(parish.bearers); who++) {
            int leaning = Integer.bitCount(who);
            if (leaning <= k) {
                part += power(x, leaning) * power(TENTHS - x, parish.bearers - leaning);
            }
        }
        return part;
    }

    // ---- KINDS of DEEDS: each asks the one above it once

    private int rateAsDeed(int d) {
        traceSum += 1;
        return parish.weights.at(d);
    }

    private int rateAsDebt(int d) {
        traceSum += 10;
        return rateAsDeed(d) + Integer.bitCount(whoDid(d));
    }

    private int rateAsLie(int d) {
        traceSum += 100;
        return rateAsDeed(d) - scene.rust;
    }

    private int rateAsOath(int d) {
        traceSum += 1000;
        return 2 * rateAsDebt(d);
    }

    private int rateAsKiss(int d) {
        traceSum += 10000;
        return rateAsLie(d) + d;
    }

    private int rateAsTheft(int d) {
        traceSum += 100000;
        return rateAsDeed(d) + scene.needle;
    }

    /** A row of numbers that looks at each index before it uses it. */
    private static final class Row {
        private final int[] cells;

        Row(int size) {
            cells = new int[Math.max(0, size)];
        }

        int at(int i) {
            return i >= 0 && i < cells.length ? cells[i] : 0;
        }

        void put(int i, int n) {
            if (i >= 0 && i < cells.length) {
                cells[i] = n;
            }
        }

        int sumOf(int set) {
            int sum = 0;
            for (int i = 0; i < MOST && i < cells.length; i++) {
                if (isIn(set, i)) {
                    sum += cells[i];
                }
            }
            return sum;
        }

        void fill(int n) {
            for (int i = 0; i < cells.length; i++) {
                cells[i] = n;
            }
        }

        void copyFrom(Row other) {
            for (int i = 0; i < cells.length; i++) {
                cells[i] = other.at(i);
            }
        }
    }

    /** What THE TEXT tells; it stays so until the next one is read. */
    private static final class Parish {
        private static final int FIRST_PIN = 80;
        private static final int FIRST_RUST = 2;

        int items;
        int deeds;
        int dead;
        int bearers;
        int pin;
        int rust;
        final Row weights;
        final Row boxes;
        final Row flowers;
        final Row sins;
        final Row strengths;

        Parish() {
            weights = new Row(MOST);
            boxes = new Row(MOST);
            flowers = new Row(MOST);
            sins = new Row(MOST);
            strengths = new Row(MOST);
            begin();
        }

        void begin() {
            items = 0;
            deeds = 0;
            dead = 0;
            bearers = 0;
            pin = FIRST_PIN;
            rust = FIRST_RUST;
        }

        boolean hasDeed(int d) {
            return d >= 0 && d < deeds;
        }

        boolean hasDead(int l) {
            return l >= 0 && l < dead;
        }

        boolean hasBearer(int b) {
            return b >= 0 && b < bearers;
        }

        void addDeed(int weight) {
            weights.put(deeds, weight);
            deeds++;
        }

        void addDead(int box, int flowersOnIt, int done) {
            boxes.put(dead, box);
            flowers.put(dead, flowersOnIt);
            sins.put(dead, done);
            dead++;
        }

        void addBearer(int strength) {
            strengths.put(bearers, strength);
            bearers++;
        }
    }

    /** All that IMAGES keep and undo() brings back. */
    private static final class Scene {
        int needle;
        int thumb;
        int rust;
        final Row flowers = new Row(MOST);
        final Row sins = new Row(MOST);
        final Row chalk = new Row(MOST);

        void begin(Parish parish) {
            needle = 0;
            thumb = 0;
            rust = parish.rust;
            flowers.copyFrom(parish.flowers);
            sins.copyFrom(parish.sins);
            chalk.fill(NONE);
        }

        void copyFrom(Scene other) {
            needle = other.needle;
            thumb = other.thumb;
            rust = other.rust;
            flowers.copyFrom(other.flowers);
            sins.copyFrom(other.sins);
            chalk.copyFrom(other.chalk);
        }

        boolean isChalked(int l) {
            return chalk.at(l) != NONE;
        }
    }

    /** Scenes made once and written over, so that no call has to make one. */
    private static final class Shelf {
        private final Scene[] scenes;

        Shelf(int size) {
            scenes = new Scene[Math.max(0, size)];
            for (int i = 0; i < scenes.length; i++) {
                scenes[i] = new Scene();
            }
        }

        private boolean has(int i) {
            return i >= 0 && i < scenes.length && scenes[i] != null;
        }

        void put(int i, Scene scene) {
            if (has(i)) {
                scenes[i].copyFrom(scene);
            }
        }

        void copyTo(int i, Scene scene) {
            if (has(i)) {
                scene.copyFrom(scenes[i]);
            }
        }
    }

    /** The scenes ahead of the latest changes; the oldest gives way, in a ring. */
    private static final class History {
        int known;
        private int next;
        private final Shelf ring = new Shelf(MOST_UNDONE);

        void remember(Scene scene) {
            ring.put(next, scene);
            next = next + 1 < MOST_UNDONE ? next + 1 : 0;
            known = Math.min(known + 1, MOST_UNDONE);
        }

        void recall(Scene scene) {
            if (known > 0) {
                next = next > 0 ? next - 1 : MOST_UNDONE - 1;
                ring.copyTo(next, scene);
                known--;
            }
        }

        void loseAll() {
            known = 0;
        }
    }

    /** Reads THE TEXT token by token and stays on the first that can't stand there: its place is the FAULT. */
    private static final class Reader {
        // a letter or ; as a token is told by its own number; these are below all of those
        private static final int END = 0;
        private static final int NUMBER = 1;
        private static final int OTHER = 2;

        private final Row letters;
        private int length;
        private int start;
        private int behind;
        private int token;
        private int value;
        private boolean wrong;
        private boolean pinTold;
        private boolean rustTold;

        Reader(Row letters) {
            this.letters = letters;
        }

        int read(int textLength, Parish into) {
            length = textLength;
            behind = 0;
            wrong = false;
            pinTold = false;
            rustTold = false;
            into.begin();
            step();
            for (int i = 0; i < MOST_LETTERS && !wrong && token != END; i++) {
                switch (token) {
                    case 'd': readDeed(into); break;
                    case 'l': readDead(into); break;
                    case 'b': readBearer(into); break;
                    case 'p': readPin(into); break;
                    case 'r': readRust(into); break;
                    default: wrong = true; break;
                }
            }
            return wrong ? start : NO_FAULT;
        }

        private void readDeed(Parish into) {
            open(into.deeds < MOST);
            int told = number(0, 2 * WEIGHT_SHIFT);
            close(into);
            if (!wrong) {
                into.addDeed(told - WEIGHT_SHIFT);
            }
        }

        private void readDead(Parish into) {
            open(into.dead < MOST);
            int box = number(1, MOST_BOX);
            int flowers = number(0, MOST_FLOWERS);
            int done = readDone(into);
            close(into);
            if (!wrong) {
                into.addDead(box, flowers, done);
            }
        }

        private int readDone(Parish into) {
            int done = 0;
            for (int i = 0; i < MOST && !wrong && mayBeDone(into, done); i++) {
                done |= bit(value);
                step();
            }
            return done;
        }

        private boolean mayBeDone(Parish into, int done) {
            return token == NUMBER && into.hasDeed(value) && !isIn(done, value);
        }

        private void readBearer(Parish into) {
            open(into.bearers < MOST);
            int strength = number(1, MOST_STRENGTH);
            close(into);
            if (!wrong) {
                into.addBearer(strength);
            }
        }

        private void readPin(Parish into) {
            open(!pinTold);
            into.pin = number(10, MOST_PIN);
            close(into);
            pinTold = true;
        }

        private void readRust(Parish into) {
            open(!rustTold);
            into.rust = number(0, MOST_RUST);
            close(into);
            rustTold = true;
        }

        private void open(boolean mayStand) {
            if (mayStand) {
                step();
            } else {
                wrong = true;
            }
        }

        private int number(int low, int high) {
            int told = value;
            if (wrong || token != NUMBER || !isWithin(told, low, high)) {
                wrong = true;
                return low;
            }
            step();
            return told;
        }

        private void close(Parish into) {
            if (!wrong && token == ';') {
                into.items++;
                step();
            } else {
                wrong = true;
            }
        }

        private void step() {
            while (behind < length && letters.at(behind) == ' ') {
                behind++;
            }
            start = behind;
            if (start >= length) {
                token = END;
            } else if (isDigit(letters.at(start))) {
                stepNumber();
            } else {
                token = isSign(letters.at(start)) ? letters.at(start) : OTHER;
                behind++;
            }
        }

        private void stepNumber() {
            value = 0;
            while (behind < length && isDigit(letters.at(behind))) {
                // a longer one is no NUMBER at all, so what it comes to is never used
                value = 10 * value + letters.at(behind) - '0';
                behind++;
            }
            int digits = behind - start;
            boolean isPlain = digits == 1 || digits == 2 && letters.at(start) != '0';
            token = isPlain ? NUMBER : OTHER;
        }

        private static boolean isDigit(int letter) {
            return letter >= '0' && letter <= '9';
        }

        private static boolean isSign(int letter) {
            return letter == 'd' || letter == 'l' || letter == 'b'
                || letter == 'p' || letter == 'r' || letter == ';';
        }
    }
}
