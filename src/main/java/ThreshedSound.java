import java.util.Arrays;

public final class ThreshedSound {
    public static final int BAD = -1, NOT = -2, FULL = -3, STATE = -5, VOID = -2000000000;

    private static final int FINE = 0;
    private static final int NOTHING_THERE = -11;
    private static final int OTHER_KIND = -12;
    private static final int NO_PLACE = -13;
    private static final int SIZE_BELOW = -14;

    private static final int SIDE = 4;
    private static final int PLANKS = 16;
    private static final int REST = 16;
    private static final int TONES = 8;
    private static final int MOST_CORN = 9;
    private static final int MOST_MEN = 4;
    private static final int MOST_SAYINGS = 8;
    private static final int MOST_TONES = 6;
    private static final int MOST_LOUD = 9;
    private static final int MOST_BEATS = 40;
    private static final int MOST_BYTES = 120;
    private static final int MOST_CHANGES = 40;
    private static final int MOST_BODIES = 50;
    private static final int MOST_TRACE = 24;
    private static final int MOST_ELEMENTS = 60;
    private static final int SHELVES = 6;
    private static final int KINDS = 8;
    private static final int ACTS = 4;
    private static final int TWELFTHS = 12;
    private static final int DRAWN_TONES = 7;

    private static final int TONE_OF_PLANK = 0;
    private static final int CORN_OF_PLANK = 1;
    private static final int PLANK_OF_MAN = 2;
    private static final int REACH_OF_MAN = 3;
    private static final int ARM_OF_MAN = 4;
    private static final int LATE_OF_MAN = 5;
    private static final int ROAD = 6;
    private static final int TONE_OF_SAYING = 7;
    private static final int LENGTH_OF_SAYING = 8;
    private static final int[] GREATEST = {7, 9, 15, 6, 12, 9, 20, 7};

    private final Floor floor;
    private final LawReader tape;
    private final Speech speech;
    private final Plan plan;
    private final Sounds sounds;
    private final Turns turns;
    private final Deeds deeds;
    private final Deeds kept;
    private final int[] keptCorn;
    private boolean hasImage;
    private final Changes changes;
    private final Flails flails;
    private final Shelf[] shelves;

    public ThreshedSound() {
        floor = new Floor();
        tape = new LawReader();
        speech = new Speech(floor);
        plan = new Plan(floor);
        sounds = new Sounds(floor);
        turns = new Turns(floor);
        deeds = new Deeds();
        kept = new Deeds();
        keptCorn = new int[PLANKS];
        hasImage = false;
        changes = new Changes();
        flails = new Flails();
        shelves = new Shelf[SHELVES];
        for (int i = 0; i < SHELVES; i++) {
            shelves[i] = new Shelf();
        }
    }

    // ---- men, sayings

    public int man(int plank) {
        if (!isPlank(plank)) {
            return BAD;
        }
        return floor.addMan(plank);
    }

    public int saying(int shelf, int i, int n) {
        if (n < 1 || n > MOST_TONES) {
            return BAD;
        }
        int bytes = bytesOn(shelf);
        if (bytes != FINE) {
            return bytes;
        }
        Shelf from = shelves[shelf];
        if (!from.hasTones(i, n)) {
            return BAD;
        }
        return floor.addSaying(from, i, n);
    }

    public int mend(int number, int what, int v) {
        if (!floor.names(number, what) || v < 0 || v > GREATEST[what]) {
            return BAD;
        }
        int was = floor.numberOf(number, what);
        if (was != v) {
            changes.add(number, what, was, v);
            floor.setNumber(number, what, v);
        }
        return was;
    }

    public int of(int number, int what) {
        if (what == LENGTH_OF_SAYING) {
            return floor.hasSaying(number) ? floor.lengths[number] : BAD;
        }
        return floor.names(number, what) ? floor.numberOf(number, what) : BAD;
    }

    public int feed(int letter) {
        if (letter < 0 || letter > 255) {
            return BAD;
        }
        return tape.addByte(letter);
    }

    public int law() {
        boolean whole = tape.readText();
        if (whole) {
            tape.into = floor.exchangeLaw(tape.into);
        }
        tape.length = 0;
        return whole ? 1 : -100 - tape.place;
    }

    public int reach(int man) {
        return floor.hasMan(man) ? floor.reachBits(man) : BAD;
    }

    // ---- plans

    public int plan(int shelf, int what) {
        if (what < 0 || what > 4) {
            return BAD;
        }
        int bytes = bytesOn(shelf);
        if (bytes != FINE) {
            return bytes;
        }
        plan.walk(shelves[shelf]);
        switch (what) {
            case 0:
                return plan.beats;
            case 1:
                return plan.heardBeats;
            case 2:
                return plan.cornLeft;
            case 3:
                return plan.threshedBehind;
            default:
                return plan.saidBits();
        }
    }

    public int tone(int shelf, int beat) {
        if (beat < 0) {
            return BAD;
        }
        int bytes = bytesOn(shelf);
        if (bytes != FINE) {
            return bytes;
        }
        plan.walk(shelves[shelf]);
        return beat < plan.beats ? plan.heard[beat] : NOT;
    }

    public int behind(int shelf, int number, int what) {
        boolean known = what == 0 ? isPlank(number) : what == 1 && floor.hasSaying(number);
        if (!known) {
            return BAD;
        }
        int bytes = bytesOn(shelf);
        if (bytes != FINE) {
            return bytes;
        }
        plan.walk(shelves[shelf]);
        return what == 0 ? plan.corn[number] : plan.wholeAt(number);
    }

    public int say(int saying, int k) {
        if (!floor.hasSaying(saying) || k < 0) {
            return BAD;
        }
        if (k >= floor.lengths[saying]) {
            return NOT;
        }
        speech.begin();
        return speech.speak(saying) ? speech.planks[k] : NOT;
    }

    public int can() {
        speech.begin();
        return speech.sayableBits();
    }

    public long rows(int n) {
        if (n < 0 || n > 9) {
            return Long.MIN_VALUE;
        }
        long all = 1;
        for (int beat = 0; beat < n; beat++) {
            all *= floor.unlikeTones(floor.manOf(beat));
        }
        return all;
    }

    public int thresh() {
        return turns.fewestBeats();
    }

    public int tune(int what) {
        if (!isPart(what)) {
            return BAD;
        }
        speech.begin();
        int best = 0;
        int most = -1;
        for (int tuning = 0; tuning < PLANKS * TONES; tuning++) {
            int plank = tuning / TONES;
            int given = tuning % TONES;
            speech.retune(plank, floor.tones[plank], given);
            int sayable = Integer.bitCount(speech.sayableBits());
            speech.retune(plank, given, floor.tones[plank]);
            if (sayable > most) {
                most = sayable;
                best = tuning;
            }
        }
        return what == 0 ? best : most;
    }

    // ---- sounds

    public int nearest(int shelf, int what) {
        if (!isPart(what)) {
            return BAD;
        }
        int bytes = bytesOn(shelf);
        if (bytes != FINE) {
            return bytes;
        }
        sounds.hear(shelves[shelf]);
        int which = sounds.nearestSaying();
        return what == 0 || which == NOT ? which : sounds.slipsFrom(which);
    }

    public long likely(int shelf, int saying, int part) {
        if (!floor.hasSaying(saying) || !isPart(part) || floor.men == 0 || bytesOn(shelf) != FINE) {
            return Long.MIN_VALUE;
        }
        sounds.hear(shelves[shelf]);
        long one = sounds.weightOf(saying);
        if (one == 0) {
            return part;
        }
        long all = sounds.weightOfAll();
        long common = Sounds.commonDivisor(one, all);
        if (common == 0) {
            return part;
        }
        return (part == 0 ? one : all) / common;
    }

    public int slips(int shelf, int saying) {
        if (!floor.hasSaying(saying)) {
            return BAD;
        }
        int bytes = bytesOn(shelf);
        if (bytes != FINE) {
            return bytes;
        }
        sounds.hear(shelves[shelf]);
        return sounds.slipBits(saying);
    }

    public int apart(int ab) {
        if (ab < 0 || !floor.hasSaying(ab / 10) || !floor.hasSaying(ab % 10)) {
            return BAD;
        }
        return floor.tonesApart(ab / 10, ab % 10);
    }

    public int closest() {
        int best = NOT;
        int least = MOST_TONES + 1;
        for (int one = 0; one < floor.told; one++) {
            for (int other = one + 1; other < floor.told; other++) {
                int between = floor.tonesApart(one, other);
                if (between != NOT && between < least) {
                    least = between;
                    best = 10 * one + other;
                }
            }
        }
        return best;
    }

    public int begins(int saying) {
        if (!floor.hasSaying(saying)) {
            return BAD;
        }
        int bits = 0;
        for (int other = 0; other < floor.told; other++) {
            if (other != saying && floor.startsWith(other, saying)) {
                bits |= 1 << other;
            }
        }
        return bits;
    }

    // ---- turns of men

    public int meet(int what) {
        if (!isPart(what)) {
            return BAD;
        }
        int least = NOT;
        int twos = 0;
        for (int one = 0; one < floor.men; one++) {
            for (int other = one + 1; other < floor.men; other++) {
                if (turns.strikeAtOnce(one, other)) {
                    least = least == NOT ? 10 * one + other : least;
                    twos++;
                }
            }
        }
        return what == 0 ? least : twos;
    }

    public int first(int n) {
        if (n < 0 || n > MOST_MEN) {
            return BAD;
        }
        for (int beat = 0; beat < 100; beat++) {
            if (turns.strikersOn(beat) == n) {
                return beat;
            }
        }
        return NOT;
    }

    public int silent() {
        int quiet = 0;
        for (int beat = 0; beat < 100; beat++) {
            if (turns.strikersOn(beat) == 0) {
                quiet++;
            }
        }
        return quiet;
    }

    public int byTurns(int ab, int n, int what) {
        if (ab < 0 || n < 1 || n > 4 || !isPart(what)) {
            return VOID;
        }
        int one = ab / 10;
        int other = ab % 10;
        if (one == other || !floor.hasMan(one) || !floor.hasMan(other)) {
            return VOID;
        }
        turns.playBest(one, other, n);
        return what == 0 ? turns.bestGain : turns.bestPlank;
    }

    public int drawn(int seed, int n, int saying, int what) {
        if (n < 1 || n > 30 || !floor.hasSaying(saying) || !isPart(what) || floor.men == 0) {
            return VOID;
        }
        int times = 0;
        int z = seed;
        for (int night = 0; night < n; night++) {
            z = sounds.draw(saying, z);
            boolean counts = what == 0 ? sounds.slipsFrom(saying) == 0 : sounds.nearestSaying() == saying;
            times += counts ? 1 : 0;
        }
        return times;
    }

    // ---- in deed

    public int strike(int plank) {
        if (plank < 0 || plank > REST) {
            return BAD;
        }
        int beat = deeds.numbers[Deeds.BEATS];
        int striker = floor.manOf(beat);
        if (striker == NOT) {
            return STATE;
        }
        if (plank == REST) {
            deeds.addBeat(Deeds.SILENCE);
            return 0;
        }
        if (!floor.canStrike(striker, plank)) {
            return STATE;
        }
        int loud = floor.loudness(striker, floor.tones[plank], floor.corn[plank], beat);
        deeds.addStroke(loud > 0, floor.tones[plank], floor.corn[plank] > 0);
        floor.corn[plank] = Math.max(0, floor.corn[plank] - 1);
        return loud;
    }

    public int sow(int plank) {
        if (!isPlank(plank)) {
            return BAD;
        }
        floor.corn[plank] = Math.min(MOST_CORN, floor.corn[plank] + 1);
        deeds.numbers[Deeds.SOWN]++;
        return floor.corn[plank];
    }

    public int led(int what) {
        if (what >= 0 && what <= Deeds.SOWN) {
            return deeds.numbers[what];
        }
        int k = what - 10;
        if (what < 10 || k >= Deeds.LATEST) {
            return BAD;
        }
        return k < deeds.numbers[Deeds.BEATS] ? deeds.latest[k] : NOT;
    }

    public int image() {
        kept.copyFrom(deeds);
        System.arraycopy(floor.corn, 0, keptCorn, 0, PLANKS);
        hasImage = true;
        return deeds.numbers[Deeds.BEATS];
    }

    public int back() {
        if (!hasImage) {
            return STATE;
        }
        deeds.copyFrom(kept);
        System.arraycopy(keptCorn, 0, floor.corn, 0, PLANKS);
        return deeds.numbers[Deeds.BEATS];
    }

    public int undo() {
        if (changes.done == 0) {
            return STATE;
        }
        changes.done--;
        int i = changes.done;
        floor.setNumber(changes.numbers[i], changes.whats[i], changes.befores[i]);
        return changes.done;
    }

    public int redo() {
        if (changes.done >= changes.all) {
            return STATE;
        }
        int i = changes.done;
        floor.setNumber(changes.numbers[i], changes.whats[i], changes.afters[i]);
        changes.done++;
        return changes.all - changes.done;
    }

    // ---- acts, shelves

    public int body(int kind) {
        if (!isKind(kind)) {
            return BAD;
        }
        return flails.addBody(kind);
    }

    public int act(int body, int act, int x) {
        return flails.startAct(body, act, x);
    }

    public int trace(int i) {
        return i >= 0 && i < flails.ran && i < MOST_TRACE ? flails.traced[i] : BAD;
    }

    public int keep(int shelf, int body) {
        if (!isShelf(shelf) || body < -1 || body >= flails.bodies) {
            return BAD;
        }
        if (body == -1) {
            shelves[shelf].clear();
        } else {
            shelves[shelf].holdFlail(body);
        }
        return 1;
    }

    public int row(int shelf, int sort, int n) {
        if (!isShelf(shelf) || !Shelf.isSort(sort) || n > MOST_ELEMENTS) {
            return BAD;
        }
        if (n < 0) {
            return SIZE_BELOW;
        }
        shelves[shelf].holdRow(sort, n);
        return 1;
    }

    public int put(int shelf, int i, long v) {
        int refusal = refusalOfElement(shelf, i);
        if (refusal != FINE) {
            return refusal;
        }
        shelves[shelf].setElement(i, v);
        return 1;
    }

    public long element(int shelf, int i) {
        if (refusalOfElement(shelf, i) != FINE) {
            return Long.MIN_VALUE;
        }
        return shelves[shelf].elements[i];
    }

    public int shift(int shelf, int i, int other, int j, int n) {
        if (!isShelf(shelf) || !isShelf(other)) {
            return BAD;
        }
        Shelf from = shelves[shelf];
        Shelf to = shelves[other];
        if (from.isEmpty() || to.isEmpty()) {
            return NOTHING_THERE;
        }
        if (!from.isRow() || !to.isRow() || from.sort != to.sort) {
            return OTHER_KIND;
        }
        if (!from.hasPlaces(i, n) || !to.hasPlaces(j, n)) {
            return NO_PLACE;
        }
        System.arraycopy(from.elements, i, to.elements, j, n);
        return n;
    }

    public int taken(int shelf, int k) {
        if (!isShelf(shelf) || !isKind(k)) {
            return BAD;
        }
        Shelf held = shelves[shelf];
        if (held.isEmpty()) {
            return NOTHING_THERE;
        }
        int kind = held.isFlail() ? flails.kindOf(held.flail) : BAD;
        return Flails.isUnder(kind, k) ? kind : OTHER_KIND;
    }

    public int count(int what) {
        switch (what) {
            case 0:
                return floor.men;
            case 1:
                return floor.told;
            case 2:
                return tape.length;
            case 3:
                return changes.done;
            case 4:
                return flails.bodies;
            case 5:
                return flails.ran;
            default:
                return BAD;
        }
    }

    // ---- what several calls ask

    private static boolean isPlank(int plank) {
        return plank >= 0 && plank < PLANKS;
    }

    private static boolean isShelf(int shelf) {
        return shelf >= 0 && shelf < SHELVES;
    }

    private static boolean isKind(int kind) {
        return kind >= 0 && kind < KINDS;
    }

    private static boolean isPart(int what) {
        return what == 0 || what == 1;
    }

    /** FINE, or why there is no ROW of bytes on a SHELF. */
    private int bytesOn(int shelf) {
        if (!isShelf(shelf)) {
            return BAD;
        }
        Shelf held = shelves[shelf];
        if (held.isEmpty()) {
            return NOTHING_THERE;
        }
        return held.isRow() && held.sort == Shelf.BYTES ? FINE : OTHER_KIND;
    }

    /** FINE, or why there is no element i on a SHELF. */
    private int refusalOfElement(int shelf, int i) {
        if (!isShelf(shelf)) {
            return BAD;
        }
        Shelf held = shelves[shelf];
        if (held.isEmpty()) {
            return NOTHING_THERE;
        }
        if (!held.isRow()) {
            return OTHER_KIND;
        }
        return held.hasPlaces(i, 1) ? FINE : NO_PLACE;
    }

    /** The planks, men and sayings, and how loud a stroke is. */
    private static final class Floor {
        final int[] tones = new int[PLANKS];
        final int[] corn = new int[PLANKS];
        final int[] stands = new int[MOST_MEN];
        final int[] reaches = new int[MOST_MEN];
        final int[] arms = new int[MOST_MEN];
        final int[] lates = new int[MOST_MEN];
        final int[][] sayings = new int[MOST_SAYINGS][MOST_TONES];
        final int[] lengths = new int[MOST_SAYINGS];
        int men = 0;
        int told = 0;
        int road = 0;
        Law rule = new Law();
        boolean hasLaw = false;

        int addMan(int plank) {
            if (men >= MOST_MEN) {
                return FULL;
            }
            stands[men] = plank;
            reaches[men] = 2;
            arms[men] = TWELFTHS;
            lates[men] = 0;
            men++;
            return men - 1;
        }

        int addSaying(Shelf from, int i, int n) {
            if (told >= MOST_SAYINGS) {
                return FULL;
            }
            for (int k = 0; k < n; k++) {
                sayings[told][k] = (int) from.elements[i + k];
            }
            lengths[told] = n;
            told++;
            return told - 1;
        }

        boolean hasMan(int i) {
            return i >= 0 && i < men;
        }

        boolean hasSaying(int i) {
            return i >= 0 && i < told;
        }

        /** Whether mend() knows such a number. */
        boolean names(int number, int what) {
            switch (what) {
                case TONE_OF_PLANK:
                case CORN_OF_PLANK:
                    return isPlank(number);
                case PLANK_OF_MAN:
                case REACH_OF_MAN:
                case ARM_OF_MAN:
                case LATE_OF_MAN:
                    return hasMan(number);
                case ROAD:
                    return number == 0;
                case TONE_OF_SAYING:
                    return number >= 0 && hasSaying(number / 10) && number % 10 < lengths[number / 10];
                default:
                    return false;
            }
        }

        int numberOf(int number, int what) {
            if (!names(number, what)) {
                return BAD;
            }
            if (what == ROAD) {
                return road;
            }
            return what == TONE_OF_SAYING ? sayings[number / 10][number % 10] : listOf(what)[number];
        }

        void setNumber(int number, int what, int v) {
            if (!names(number, what)) {
                return;
            }
            if (what == ROAD) {
                road = v;
            } else if (what == TONE_OF_SAYING) {
                sayings[number / 10][number % 10] = v;
            } else {
                listOf(what)[number] = v;
            }
        }

        private int[] listOf(int what) {
            switch (what) {
                case TONE_OF_PLANK:
                    return tones;
                case CORN_OF_PLANK:
                    return corn;
                case PLANK_OF_MAN:
                    return stands;
                case REACH_OF_MAN:
                    return reaches;
                case ARM_OF_MAN:
                    return arms;
                default:
                    return lates;
            }
        }

        /** The man of a BEAT; NOT: there are no MEN. */
        int manOf(int beat) {
            return men > 0 && beat >= 0 ? beat % men : NOT;
        }

        boolean canStrike(int man, int plank) {
            if (!hasMan(man) || !isPlank(plank)) {
                return false;
            }
            int across = Math.abs(plank % SIDE - stands[man] % SIDE);
            int along = Math.abs(plank / SIDE - stands[man] / SIDE);
            return across + along <= reaches[man];
        }

        int reachBits(int man) {
            int bits = 0;
            for (int plank = 0; plank < PLANKS; plank++) {
                if (canStrike(man, plank)) {
                    bits |= 1 << plank;
                }
            }
            return bits;
        }

        int unlikeTones(int man) {
            int bits = 0;
            for (int plank = 0; plank < PLANKS; plank++) {
                if (canStrike(man, plank)) {
                    bits |= 1 << tones[plank];
                }
            }
            return Integer.bitCount(bits);
        }

        int cornOfAll() {
            int all = 0;
            for (int plank = 0; plank < PLANKS; plank++) {
                all += corn[plank];
            }
            return all;
        }

        int loudness(int man, int tone, int cornThere, int beat) {
            if (!hasMan(man)) {
                return 0;
            }
            int loud = hasLaw
                ? rule.workOut(tone, cornThere, road, man, arms[man], beat % 4)
                : MOST_LOUD - road / 2 - cornThere / 3;
            return Math.max(0, Math.min(MOST_LOUD, loud));
        }

        /** The old one comes back, so that the next text can be read into it. */
        Law exchangeLaw(Law newer) {
            Law old = rule;
            rule = newer;
            hasLaw = true;
            return old;
        }

        /** NOT: they are of unlike length. */
        int tonesApart(int one, int other) {
            if (!hasSaying(one) || !hasSaying(other) || lengths[one] != lengths[other]) {
                return NOT;
            }
            int unlike = 0;
            for (int k = 0; k < lengths[one]; k++) {
                unlike += sayings[one][k] != sayings[other][k] ? 1 : 0;
            }
            return unlike;
        }

        boolean startsWith(int whole, int part) {
            if (lengths[whole] < lengths[part]) {
                return false;
            }
            for (int k = 0; k < lengths[part]; k++) {
                if (sayings[whole][k] != sayings[part][k]) {
                    return false;
                }
            }
            return true;
        }
    }

    /** A law as steps on a stack, so that a stroke needs no new reading of the text. */
    private static final class Law {
        static final int NUMBER = 0;
        static final int NAME = 1;
        static final int SKIP_LINE = 2;
        static final int ANSWER = 3;
        static final int NO = 4;
        static final int LESS_THAN_NOTHING = 5;
        // a text of 120 bytes gives at most a step for each byte and one more
        static final int MOST_STEPS = 128;

        final int[] steps = new int[MOST_STEPS];
        final int[] operands = new int[MOST_STEPS];
        final int[] stack = new int[MOST_STEPS];
        final int[] named = new int[6];
        int size = 0;

        int addStep(int step, int operand) {
            if (size >= MOST_STEPS) {
                return MOST_STEPS - 1;
            }
            steps[size] = step;
            operands[size] = operand;
            size++;
            return size - 1;
        }

        int workOut(int tone, int corn, int road, int man, int arm, int beat) {
            named[0] = tone;
            named[1] = corn;
            named[2] = road;
            named[3] = man;
            named[4] = arm;
            named[5] = beat;
            int top = 0;
            for (int i = 0; i < size; i++) {
                int step = steps[i];
                if (step == NUMBER || step == NAME) {
                    if (top >= MOST_STEPS) {
                        return 0;
                    }
                    stack[top] = step == NUMBER ? operands[i] : named[operands[i]];
                    top++;
                } else if (top < 1) {
                    return 0;
                } else if (step == ANSWER) {
                    return stack[top - 1];
                } else if (step == SKIP_LINE) {
                    top--;
                    // only ever ahead: the place behind this line's answer
                    i = stack[top] == 0 ? Math.max(i, operands[i] - 1) : i;
                } else if (step == NO || step == LESS_THAN_NOTHING) {
                    stack[top - 1] = negated(step, stack[top - 1]);
                } else if (top < 2) {
                    return 0;
                } else {
                    top--;
                    stack[top - 1] = joined(step, stack[top - 1], stack[top]);
                }
            }
            return 0;
        }

        private static int negated(int step, int v) {
            if (step == LESS_THAN_NOTHING) {
                return -v;
            }
            return v == 0 ? 1 : 0;
        }

        private static int joined(int sign, int left, int right) {
            switch (sign) {
                case '|':
                    return left != 0 || right != 0 ? 1 : 0;
                case '&':
                    return left != 0 && right != 0 ? 1 : 0;
                case '<':
                    return left < right ? 1 : 0;
                case '=':
                    return left == right ? 1 : 0;
                case '>':
                    return left > right ? 1 : 0;
                case '+':
                    return left + right;
                case '-':
                    return left - right;
                case '*':
                    return left * right;
                case '/':
                    return right == 0 ? 0 : left / right;
                case '%':
                    return right == 0 ? 0 : left % right;
                default:
                    return 0;
            }
        }
    }

    /** The tape, and the reading of its text; where a reading stops short, place is the FAULT. */
    private static final class LawReader {
        static final int EITHER = 0;
        static final int BOTH = 1;
        static final int COMPARED = 2;
        static final int SUM = 3;
        static final int PRODUCT = 4;
        static final int ONE = 5;
        static final int END = -1;
        static final int MOST_OPEN = 6;
        static final int MOST_DIGITS = 4;
        static final String NAMES = "tcrmab";

        final int[] text = new int[MOST_BYTES];
        int length = 0;
        int place = 0;
        Law into = new Law();

        int addByte(int letter) {
            if (length >= MOST_BYTES) {
                return FULL;
            }
            text[length] = letter;
            length++;
            return length;
        }

        boolean readText() {
            into.size = 0;
            place = 0;
            for (int lines = 0; lines < MOST_BYTES; lines++) {
                if (!readLine()) {
                    return false;
                }
                if (next() == END) {
                    return true;
                }
                if (!pass(';')) {
                    return false;
                }
            }
            return false;
        }

        private int next() {
            return place >= 0 && place < length ? text[place] : END;
        }

        private boolean pass(int letter) {
            if (next() != letter) {
                return false;
            }
            place++;
            return true;
        }

        private boolean readLine() {
            if (!readLevel(EITHER, 0)) {
                return false;
            }
            if (!pass('?')) {
                into.addStep(Law.ANSWER, 0);
                return true;
            }
            int skip = into.addStep(Law.SKIP_LINE, 0);
            if (!readLevel(EITHER, 0)) {
                return false;
            }
            into.addStep(Law.ANSWER, 0);
            into.operands[skip] = into.size;
            return true;
        }

        /** What signs of a level join, read one level closer; E, A, B, S and P differ in no more. */
        private boolean readLevel(int level, int open) {
            if (level >= ONE) {
                return readOne(open);
            }
            if (!readLevel(level + 1, open)) {
                return false;
            }
            int most = level == COMPARED ? 1 : MOST_BYTES;
            for (int i = 0; i < most && levelOf(next()) == level; i++) {
                int sign = next();
                place++;
                if (!readLevel(level + 1, open)) {
                    return false;
                }
                into.addStep(sign, 0);
            }
            return true;
        }

        private static int levelOf(int sign) {
            switch (sign) {
                case '|':
                    return EITHER;
                case '&':
                    return BOTH;
                case '<':
                case '=':
                case '>':
                    return COMPARED;
                case '+':
                case '-':
                    return SUM;
                case '*':
                case '/':
                case '%':
                    return PRODUCT;
                default:
                    return ONE;
            }
        }

        private boolean readOne(int open) {
            int letter = next();
            if (letter == END) {
                return false;
            }
            if (isDigit(letter)) {
                readNumber();
                return true;
            }
            int name = NAMES.indexOf((char) letter);
            if (name >= 0) {
                place++;
                into.addStep(Law.NAME, name);
                return true;
            }
            boolean opens = letter == '(' || letter == '!' || letter == '-';
            if (!opens || open >= MOST_OPEN) {
                return false;
            }
            place++;
            if (letter == '(') {
                return readLevel(EITHER, open + 1) && pass(')');
            }
            if (!readOne(open + 1)) {
                return false;
            }
            into.addStep(letter == '!' ? Law.NO : Law.LESS_THAN_NOTHING, 0);
            return true;
        }

        private void readNumber() {
            int number = 0;
            for (int i = 0; i < MOST_DIGITS && isDigit(next()); i++) {
                number = number * 10 + next() - '0';
                place++;
            }
            into.addStep(Law.NUMBER, number);
        }

        private static boolean isDigit(int letter) {
            return letter >= '0' && letter <= '9';
        }
    }

    /** A PLAN, walked in thought. */
    private static final class Plan {
        final Floor floor;
        final int[] corn = new int[PLANKS];
        final int[] heard = new int[MOST_BEATS];
        int beats = 0;
        int heardBeats = 0;
        int cornLeft = 0;
        int threshedBehind = NOT;

        Plan(Floor floor) {
            this.floor = floor;
        }

        void walk(Shelf from) {
            System.arraycopy(floor.corn, 0, corn, 0, PLANKS);
            beats = 0;
            heardBeats = 0;
            cornLeft = floor.cornOfAll();
            threshedBehind = cornLeft == 0 ? 0 : NOT;
            int most = Math.min(MOST_BEATS, from.size);
            for (int beat = 0; beat < most; beat++) {
                int plank = (int) from.elements[beat];
                int man = floor.manOf(beat);
                if (man == NOT || plank != REST && !floor.canStrike(man, plank)) {
                    break;
                }
                heard[beat] = plank == REST ? NOT : toneHeard(man, plank, beat);
                heardBeats += heard[beat] == NOT ? 0 : 1;
                beats++;
                if (cornLeft == 0 && threshedBehind == NOT) {
                    threshedBehind = beats;
                }
            }
        }

        private int toneHeard(int man, int plank, int beat) {
            int loud = floor.loudness(man, floor.tones[plank], corn[plank], beat);
            if (corn[plank] > 0) {
                corn[plank]--;
                cornLeft--;
            }
            return loud > 0 ? floor.tones[plank] : NOT;
        }

        int saidBits() {
            int bits = 0;
            for (int saying = 0; saying < floor.told; saying++) {
                if (wholeAt(saying) != NOT) {
                    bits |= 1 << saying;
                }
            }
            return bits;
        }

        /** The first BEAT with which a SAYING is whole; NOT. */
        int wholeAt(int saying) {
            int length = floor.lengths[saying];
            for (int start = 0; start + length <= beats; start++) {
                if (isSaidFrom(start, saying)) {
                    return start + length - 1;
                }
            }
            return NOT;
        }

        private boolean isSaidFrom(int start, int saying) {
            for (int k = 0; k < floor.lengths[saying]; k++) {
                if (heard[start + k] != floor.sayings[saying][k]) {
                    return false;
                }
            }
            return true;
        }
    }

    /** SAY, CAN and TUNE. */
    private static final class Speech {
        static final int UNKNOWN = 0;
        static final int HEARD = 1;
        static final int UNHEARD = 2;

        final Floor floor;
        final int[] corn = new int[PLANKS];
        final int[] planks = new int[MOST_TONES];
        final int[] planksOfTone = new int[TONES];
        final int[] reachOfBeat = new int[MOST_TONES];
        // a tuning asks the law the same things again and again
        final int[] asked = new int[MOST_TONES * TONES * (MOST_CORN + 1)];

        Speech(Floor floor) {
            this.floor = floor;
        }

        /** Takes in how the floor is now; ahead of all else. */
        void begin() {
            Arrays.fill(asked, UNKNOWN);
            Arrays.fill(planksOfTone, 0);
            for (int plank = 0; plank < PLANKS; plank++) {
                planksOfTone[floor.tones[plank]] |= 1 << plank;
            }
            for (int beat = 0; beat < MOST_TONES; beat++) {
                int man = floor.manOf(beat);
                reachOfBeat[beat] = man == NOT ? 0 : floor.reachBits(man);
            }
        }

        boolean speak(int saying) {
            System.arraycopy(floor.corn, 0, corn, 0, PLANKS);
            for (int k = 0; k < floor.lengths[saying]; k++) {
                int plank = leastPlank(k, floor.sayings[saying][k]);
                if (plank == NOT) {
                    return false;
                }
                planks[k] = plank;
                corn[plank] = Math.max(0, corn[plank] - 1);
            }
            return true;
        }

        private int leastPlank(int beat, int tone) {
            int left = planksOfTone[tone] & reachOfBeat[beat];
            for (int plank = 0; plank < PLANKS && left >> plank != 0; plank++) {
                if ((left >> plank & 1) == 1 && isHeard(beat, tone, corn[plank])) {
                    return plank;
                }
            }
            return NOT;
        }

        private boolean isHeard(int beat, int tone, int cornThere) {
            int i = (beat * TONES + tone) * (MOST_CORN + 1) + cornThere;
            if (asked[i] == UNKNOWN) {
                boolean loud = floor.loudness(floor.manOf(beat), tone, cornThere, beat) > 0;
                asked[i] = loud ? HEARD : UNHEARD;
            }
            return asked[i] == HEARD;
        }

        int sayableBits() {
            int bits = 0;
            for (int saying = 0; saying < floor.told; saying++) {
                if (speak(saying)) {
                    bits |= 1 << saying;
                }
            }
            return bits;
        }

        void retune(int plank, int from, int to) {
            planksOfTone[from] &= ~(1 << plank);
            planksOfTone[to] |= 1 << plank;
        }
    }

    /** TONES as they came to the road, and what may have been said. */
    private static final class Sounds {
        final Floor floor;
        final int[] tones = new int[MOST_TONES];
        int length = 0;

        Sounds(Floor floor) {
            this.floor = floor;
        }

        void hear(Shelf from) {
            length = 0;
            int most = Math.min(MOST_TONES, from.size);
            for (int k = 0; k < most && from.hasTones(k, 1); k++) {
                tones[k] = (int) from.elements[k];
                length++;
            }
        }

        /** One night's saying; answers the last z. */
        int draw(int saying, int seed) {
            int z = seed;
            length = floor.lengths[saying];
            for (int k = 0; k < length; k++) {
                z = z * 1103515245 + 12345;
                int man = floor.manOf(k);
                boolean right = man != NOT && (z >>> 8) % TWELFTHS < floor.arms[man];
                int more = right ? 0 : 1 + (z >>> 16) % DRAWN_TONES;
                tones[k] = (floor.sayings[saying][k] + more) % TONES;
            }
            return z;
        }

        /** NOT: it is of another length. */
        int slipBits(int saying) {
            if (!floor.hasSaying(saying) || floor.lengths[saying] != length) {
                return NOT;
            }
            int bits = 0;
            for (int k = 0; k < length; k++) {
                bits |= tones[k] != floor.sayings[saying][k] ? 1 << k : 0;
            }
            return bits;
        }

        /** How many TONES are other; NOT: it is of another length. */
        int slipsFrom(int saying) {
            int bits = slipBits(saying);
            return bits == NOT ? NOT : Integer.bitCount(bits);
        }

        int nearestSaying() {
            int best = NOT;
            int least = MOST_TONES + 1;
            for (int saying = 0; saying < floor.told; saying++) {
                int other = slipsFrom(saying);
                if (other != NOT && other < least) {
                    least = other;
                    best = saying;
                }
            }
            return best;
        }

        /** How likely these sounds are from a SAYING, in parts of 84 for each TONE. */
        long weightOf(int saying) {
            int bits = slipBits(saying);
            if (bits == NOT) {
                return 0;
            }
            long weight = 1;
            for (int k = 0; k < length; k++) {
                int man = floor.manOf(k);
                int arm = man == NOT ? 0 : floor.arms[man];
                weight *= (bits >> k & 1) == 0 ? (TONES - 1) * arm : TWELFTHS - arm;
            }
            return weight;
        }

        long weightOfAll() {
            long all = 0;
            for (int saying = 0; saying < floor.told; saying++) {
                all += weightOf(saying);
            }
            return all;
        }

        static long commonDivisor(long one, long other) {
            long a = one;
            long b = other;
            // two longs need fewer than a hundred steps
            for (int i = 0; i < 200 && b != 0; i++) {
                long rest = a % b;
                a = b;
                b = rest;
            }
            return a;
        }
    }

    /** Who strikes when, and two who thresh by turns. */
    private static final class Turns {
        // 144 CORN by one man of four
        static final int ENOUGH_BEATS = 1000;

        final Floor floor;
        final int[] reachers = new int[PLANKS];
        int bestGain = 0;
        int bestPlank = REST;

        Turns(Floor floor) {
            this.floor = floor;
        }

        boolean strikeAtOnce(int one, int other) {
            int between = one + floor.lates[one] - other - floor.lates[other];
            return floor.men > 0 && between % floor.men == 0;
        }

        int strikersOn(int beat) {
            int strikers = 0;
            for (int man = 0; man < floor.men; man++) {
                int behind = beat - man - floor.lates[man];
                if (behind >= 0 && behind % floor.men == 0) {
                    strikers++;
                }
            }
            return strikers;
        }

        /**
         * By Hall's theorem it is enough that any men together have strokes for the CORN
         * that nobody else reaches.
         */
        int fewestBeats() {
            findReachers();
            if (cornFor(0) > 0) {
                return NOT;
            }
            int most = 0;
            for (int group = 1; group < 1 << floor.men; group++) {
                most = Math.max(most, beatsFor(group, cornFor(group)));
            }
            return most;
        }

        /** CORN that only men of a group (bits) reach. */
        private int cornFor(int group) {
            int all = 0;
            for (int plank = 0; plank < PLANKS; plank++) {
                if ((reachers[plank] & ~group) == 0) {
                    all += floor.corn[plank];
                }
            }
            return all;
        }

        private void findReachers() {
            for (int plank = 0; plank < PLANKS; plank++) {
                reachers[plank] = 0;
                for (int man = 0; man < floor.men; man++) {
                    reachers[plank] |= floor.canStrike(man, plank) ? 1 << man : 0;
                }
            }
        }

        private int beatsFor(int group, int strokes) {
            int left = strokes;
            int beat = 0;
            while (left > 0 && beat < ENOUGH_BEATS) {
                int man = floor.manOf(beat);
                left -= man != NOT && (group >> man & 1) == 1 ? 1 : 0;
                beat++;
            }
            return beat;
        }

        /** Only sums count: what just the one, just the other, and what both can reach. */
        void playBest(int one, int other, int times) {
            int mine = 0;
            int yours = 0;
            int ours = 0;
            for (int plank = 0; plank < PLANKS; plank++) {
                boolean byOne = floor.canStrike(one, plank);
                boolean byOther = floor.canStrike(other, plank);
                mine += byOne && !byOther ? floor.corn[plank] : 0;
                yours += byOther && !byOne ? floor.corn[plank] : 0;
                ours += byOne && byOther ? floor.corn[plank] : 0;
            }
            bestPlank = REST;
            bestGain = -gain(yours, mine, ours, times - 1);
            for (int plank = 0; plank < PLANKS; plank++) {
                // an empty plank is as good as a rest, and a rest comes first
                if (floor.corn[plank] > 0 && floor.canStrike(one, plank)) {
                    boolean shared = floor.canStrike(other, plank);
                    int found = 1 - (shared
                        ? gain(yours, mine, ours - 1, times - 1)
                        : gain(yours, mine - 1, ours, times - 1));
                    if (found > bestGain) {
                        bestGain = found;
                        bestPlank = plank;
                    }
                }
            }
        }

        /** What he whose turn it is can have more than the other, in at most four strokes. */
        private static int gain(int mine, int yours, int ours, int times) {
            if (times <= 0) {
                return 0;
            }
            int best = -gain(yours, mine, ours, times - 1);
            if (mine > 0) {
                best = Math.max(best, 1 - gain(yours, mine - 1, ours, times - 1));
            }
            if (ours > 0) {
                best = Math.max(best, 1 - gain(yours, mine, ours - 1, times - 1));
            }
            return best;
        }
    }

    /** What LED tells. */
    private static final class Deeds {
        static final int BEATS = 0;
        static final int STROKES = 1;
        static final int HEARD = 2;
        static final int TAKEN = 3;
        static final int SOWN = 4;
        static final int LATEST = 6;
        static final int SILENCE = 8;

        final int[] numbers = new int[SOWN + 1];
        // the latest BEAT first
        final int[] latest = new int[LATEST];

        void addBeat(int heard) {
            numbers[BEATS]++;
            System.arraycopy(latest, 0, latest, 1, LATEST - 1);
            latest[0] = heard;
        }

        void addStroke(boolean heard, int tone, boolean took) {
            addBeat(heard ? tone : SILENCE);
            numbers[STROKES]++;
            numbers[HEARD] += heard ? 1 : 0;
            numbers[TAKEN] += took ? 1 : 0;
        }

        void copyFrom(Deeds other) {
            System.arraycopy(other.numbers, 0, numbers, 0, SOWN + 1);
            System.arraycopy(other.latest, 0, latest, 0, LATEST);
        }
    }

    /** The latest changes: first those done, behind them those that can be done again. */
    private static final class Changes {
        final int[] numbers = new int[MOST_CHANGES];
        final int[] whats = new int[MOST_CHANGES];
        final int[] befores = new int[MOST_CHANGES];
        final int[] afters = new int[MOST_CHANGES];
        int done = 0;
        int all = 0;

        void add(int number, int what, int before, int after) {
            if (done >= MOST_CHANGES) {
                dropOldest(numbers);
                dropOldest(whats);
                dropOldest(befores);
                dropOldest(afters);
                done = MOST_CHANGES - 1;
            }
            numbers[done] = number;
            whats[done] = what;
            befores[done] = before;
            afters[done] = after;
            done++;
            all = done;
        }

        private static void dropOldest(int[] list) {
            System.arraycopy(list, 1, list, 0, MOST_CHANGES - 1);
        }
    }

    /** The BODIES, and how their acts run. */
    private static final class Flails {
        static final int FALLS = 0;
        static final int SOUNDS = 1;
        static final int WAITS = 2;
        static final int TELLS = 3;
        static final int NONE = -1;
        static final int MOST_DEEP = 40;
        static final int[] ABOVE = {-1, 0, 0, 2, 1, 3, 0, 4};
        // an ACT a line, a KIND a column; 0: the KIND has no body of its own
        static final int[] BODY_OF = {
            1, 20, 0, 0, 0, 0, 70, 0,
            10, 0, 30, 41, 0, 0, 0, 80,
            11, 0, 0, 40, 50, 0, 0, 0,
            2, 0, 0, 0, 0, 60, 0, 81
        };

        final int[] kinds = new int[MOST_BODIES];
        final int[] traced = new int[MOST_TRACE];
        int bodies = 0;
        int ran = 0;
        int number = 0;

        int addBody(int kind) {
            if (bodies >= MOST_BODIES) {
                return FULL;
            }
            kinds[bodies] = kind;
            bodies++;
            return bodies - 1;
        }

        int kindOf(int flail) {
            return flail >= 0 && flail < bodies ? kinds[flail] : NONE;
        }

        static boolean isUnder(int kind, int top) {
            int at = kind;
            for (int i = 0; i < KINDS && at >= 0 && at < KINDS; i++) {
                if (at == top) {
                    return true;
                }
                at = ABOVE[at];
            }
            return false;
        }

        int startAct(int flail, int act, int x) {
            ran = 0;
            if (flail < 0 || flail >= bodies || act < 0 || act >= ACTS) {
                return 0;
            }
            number = flail;
            return own(act, x, 0);
        }

        private int own(int act, int x, int deep) {
            return from(kindOf(number), act, x, deep);
        }

        /** The body of a KIND, or of the next above that has one. */
        private int from(int kind, int act, int x, int deep) {
            int at = kind;
            for (int i = 0; i < KINDS && at >= 0 && at < KINDS; i++) {
                int found = BODY_OF[act * KINDS + at];
                if (found != 0) {
                    return run(found, ABOVE[at], x, deep + 1);
                }
                at = ABOVE[at];
            }
            return 0;
        }

        private int run(int found, int above, int x, int deep) {
            if (deep > MOST_DEEP) {
                return 0;
            }
            note(found);
            switch (found) {
                case 1:
                    return x + number;
                case 2:
                    return own(SOUNDS, x, deep) - own(WAITS, 1, deep);
                case 10:
                    return own(FALLS, x, deep) * 2;
                case 11:
                    return x ^ number;
                case 20:
                    return from(above, FALLS, x, deep) + 3;
                case 30:
                    return -from(above, SOUNDS, x, deep);
                case 40:
                    return from(above, WAITS, x, deep) * 3;
                case 41:
                    return from(above, SOUNDS, x + 1, deep);
                case 50:
                    return from(above, WAITS, x, deep) - own(FALLS, 2, deep);
                case 60:
                    return from(above, TELLS, x, deep) ^ 5;
                case 70:
                    return from(above, FALLS, x, deep) * 2;
                case 80:
                    return from(above, SOUNDS, x, deep) + own(WAITS, 2, deep);
                case 81:
                    return from(above, TELLS, x, deep) - 1;
                default:
                    return 0;
            }
        }

        private void note(int found) {
            if (ran < MOST_TRACE) {
                traced[ran] = found;
            }
            ran++;
        }
    }

    /** Nothing, a FLAIL, or a ROW whose elements are kept as their sort leaves them. */
    private static final class Shelf {
        static final int EMPTY = 0;
        static final int FLAIL = 1;
        static final int ROW = 2;
        static final int BYTES = 0;
        static final int SHORTS = 1;
        static final int INTS = 2;
        static final int LONGS = 3;
        static final int BOOLEANS = 4;

        final long[] elements = new long[MOST_ELEMENTS];
        int holds = EMPTY;
        int flail = 0;
        int sort = BYTES;
        int size = 0;

        static boolean isSort(int sort) {
            return sort >= BYTES && sort <= BOOLEANS;
        }

        boolean isEmpty() {
            return holds == EMPTY;
        }

        boolean isFlail() {
            return holds == FLAIL;
        }

        boolean isRow() {
            return holds == ROW;
        }

        void clear() {
            holds = EMPTY;
            size = 0;
        }

        void holdFlail(int number) {
            holds = FLAIL;
            flail = number;
            size = 0;
        }

        void holdRow(int newSort, int n) {
            holds = ROW;
            sort = newSort;
            size = n;
            Arrays.fill(elements, 0L);
        }

        boolean hasPlaces(int i, int n) {
            return i >= 0 && n >= 0 && n <= size && i <= size - n;
        }

        boolean hasTones(int i, int n) {
            if (!hasPlaces(i, n)) {
                return false;
            }
            for (int k = i; k < i + n; k++) {
                if (elements[k] < 0 || elements[k] >= TONES) {
                    return false;
                }
            }
            return true;
        }

        void setElement(int i, long v) {
            if (hasPlaces(i, 1)) {
                elements[i] = fitted(v);
            }
        }

        private long fitted(long v) {
            switch (sort) {
                case BYTES:
                    return (byte) v;
                case SHORTS:
                    return (short) v;
                case INTS:
                    return (int) v;
                case BOOLEANS:
                    return v != 0 ? 1 : 0;
                default:
                    return v;
            }
        }
    }
}
