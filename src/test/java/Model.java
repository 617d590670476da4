import java.math.BigInteger;
import java.util.ArrayList;
import java.util.Arrays;
import java.util.HashSet;
import java.util.List;
import java.util.Set;

/**
 * The document once more, told as plainly as Java's library lets it be, with the names of the public face:
 * ModelTest holds the class against it.
 */
final class Model {
    private static final int[] MOST = {7, 9, 15, 6, 12, 9, 20, 7};
    private static final Class<?>[] KINDS = {JavaFlails.Flail.class, JavaFlails.Elm.class, JavaFlails.Plank.class,
        JavaFlails.No.class, JavaFlails.Barn.class, JavaFlails.Chaff.class, JavaFlails.Stranger.class,
        JavaFlails.Finlay.class};

    private final int[] tones = new int[16];
    private int[] corn = new int[16];
    private final List<int[]> men = new ArrayList<>();
    private final List<int[]> sayings = new ArrayList<>();
    private int road = 0;
    private final StringBuilder tape = new StringBuilder();
    private ModelLaw law = null;
    private int[] led = new int[5];
    private List<Integer> heard = new ArrayList<>();
    private int[] imageCorn = null;
    private int[] imageLed = null;
    private List<Integer> imageHeard = null;
    private final List<int[]> done = new ArrayList<>();
    private final List<int[]> undone = new ArrayList<>();
    private final List<Integer> kinds = new ArrayList<>();
    private List<Integer> ran = new ArrayList<>();
    private final Object[] shelves = new Object[6];

    // ---- men, sayings

    int man(int plank) {
        if (outside(plank, 16)) {
            return -1;
        }
        if (men.size() == 4) {
            return -3;
        }
        men.add(new int[] {plank, 2, 12, 0});
        return men.size() - 1;
    }

    int saying(int shelf, int i, int n) {
        if (outside(shelf, 6) || n < 1 || n > 6) {
            return -1;
        }
        if (bytes(shelf) != 0) {
            return bytes(shelf);
        }
        byte[] row = (byte[]) shelves[shelf];
        int[] saying = new int[n];
        for (int k = 0; k < n; k++) {
            long place = (long) i + k;
            if (place < 0 || place >= row.length || outside(row[(int) place], 8)) {
                return -1;
            }
            saying[k] = row[(int) place];
        }
        if (sayings.size() == 8) {
            return -3;
        }
        sayings.add(saying);
        return sayings.size() - 1;
    }

    int mend(int number, int what, int v) {
        int was = what == 8 ? -1 : of(number, what);
        if (was == -1 || outside(v, MOST[what] + 1)) {
            return -1;
        }
        if (was != v) {
            done.add(new int[] {number, what, was, v});
            undone.clear();
            if (done.size() == 41) {
                done.remove(0);
            }
            become(number, what, v);
        }
        return was;
    }

    private void become(int number, int what, int v) {
        if (what == 6) {
            road = v;
        } else if (what == 7) {
            sayings.get(number / 10)[number % 10] = v;
        } else if (what >= 2) {
            men.get(number)[what - 2] = v;
        } else {
            (what == 0 ? tones : corn)[number] = v;
        }
    }

    int of(int number, int what) {
        switch (what) {
            case 0: return outside(number, 16) ? -1 : tones[number];
            case 1: return outside(number, 16) ? -1 : corn[number];
            case 2: case 3: case 4: case 5: return outside(number, men.size()) ? -1 : men.get(number)[what - 2];
            case 6: return number == 0 ? road : -1;
            case 7:
                boolean known = number >= 0 && number / 10 < sayings.size()
                    && number % 10 < sayings.get(number / 10).length;
                return known ? sayings.get(number / 10)[number % 10] : -1;
            case 8: return outside(number, sayings.size()) ? -1 : sayings.get(number).length;
            default: return -1;
        }
    }

    int feed(int letter) {
        if (outside(letter, 256)) {
            return -1;
        }
        if (tape.length() == 120) {
            return -3;
        }
        return tape.append((char) letter).length();
    }

    int law() {
        String text = tape.toString();
        tape.setLength(0);
        try {
            law = new ModelLaw(text);
            return 1;
        } catch (ModelLaw.Fault fault) {
            return -100 - fault.place;
        }
    }

    int reach(int man) {
        if (outside(man, men.size())) {
            return -1;
        }
        int bits = 0;
        for (int plank = 0; plank < 16; plank++) {
            bits |= reaches(man, plank) ? 1 << plank : 0;
        }
        return bits;
    }

    private boolean reaches(int man, int plank) {
        int from = men.get(man)[0];
        return Math.abs(from / 4 - plank / 4) + Math.abs(from % 4 - plank % 4) <= men.get(man)[1];
    }

    private int loud(int man, int tone, int cornThere, int beat) {
        int arm = men.get(man)[2];
        int loud = law == null ? 9 - road / 2 - cornThere / 3
            : law.loud(new int[] {tone, cornThere, road, man, arm, beat % 4});
        return Math.min(9, Math.max(0, loud));
    }

    // ---- plans

    /** What comes of a ROW struck in thought: a TONE a BEAT, -2 for none; corn and threshed as it goes. */
    private final class Thought {
        final int[] left = corn.clone();
        final List<Integer> beats = new ArrayList<>();
        int threshed = Arrays.stream(left).sum() == 0 ? 0 : -2;

        Thought(byte[] row) {
            for (int beat = 0; beat < row.length && beat < 40 && men.size() > 0; beat++) {
                int plank = row[beat];
                if (plank != 16 && (outside(plank, 16) || !reaches(beat % men.size(), plank))) {
                    return;
                }
                beats.add(plank != 16 && loud(beat % men.size(), tones[plank], left[plank], beat) > 0 ? tones[plank] : -2);
                if (plank != 16) {
                    left[plank] = Math.max(0, left[plank] - 1);
                }
                threshed = threshed == -2 && Arrays.stream(left).sum() == 0 ? beat + 1 : threshed;
            }
        }

        int wholeWith(int[] saying) {
            for (int last = saying.length - 1; last < beats.size(); last++) {
                boolean whole = true;
                for (int k = 0; k < saying.length; k++) {
                    whole &= beats.get(last - saying.length + 1 + k) == saying[k];
                }
                if (whole) {
                    return last;
                }
            }
            return -2;
        }
    }

    int plan(int shelf, int what) {
        if (outside(what, 5) || bytes(shelf) != 0) {
            return outside(what, 5) ? -1 : bytes(shelf);
        }
        Thought thought = new Thought((byte[]) shelves[shelf]);
        int heardOnes = 0;
        for (int tone : thought.beats) {
            heardOnes += tone == -2 ? 0 : 1;
        }
        int bits = 0;
        for (int s = 0; s < sayings.size(); s++) {
            bits |= thought.wholeWith(sayings.get(s)) == -2 ? 0 : 1 << s;
        }
        return new int[] {thought.beats.size(), heardOnes, Arrays.stream(thought.left).sum(), thought.threshed, bits}[what];
    }

    int tone(int shelf, int beat) {
        if (beat < 0 || bytes(shelf) != 0) {
            return beat < 0 ? -1 : bytes(shelf);
        }
        Thought thought = new Thought((byte[]) shelves[shelf]);
        return beat < thought.beats.size() ? thought.beats.get(beat) : -2;
    }

    int behind(int shelf, int number, int what) {
        if (outside(what, 2) || outside(number, what == 0 ? 16 : sayings.size())) {
            return -1;
        }
        if (bytes(shelf) != 0) {
            return bytes(shelf);
        }
        Thought thought = new Thought((byte[]) shelves[shelf]);
        return what == 0 ? thought.left[number] : thought.wholeWith(sayings.get(number));
    }

    /** The PLANKS by which a SAYING is said, or null. */
    private int[] said(int saying) {
        int[] row = sayings.get(saying);
        int[] planks = new int[row.length];
        int[] left = corn.clone();
        for (int k = 0; k < row.length; k++) {
            planks[k] = 0;
            while (planks[k] < 16 && !says(k, row[k], planks[k], left)) {
                planks[k]++;
            }
            if (planks[k] == 16) {
                return null;
            }
            left[planks[k]] = Math.max(0, left[planks[k]] - 1);
        }
        return planks;
    }

    private boolean says(int beat, int tone, int plank, int[] left) {
        if (men.isEmpty() || tones[plank] != tone) {
            return false;
        }
        int man = beat % men.size();
        return reaches(man, plank) && loud(man, tone, left[plank], beat) > 0;
    }

    int say(int saying, int k) {
        if (outside(saying, sayings.size()) || k < 0) {
            return -1;
        }
        int[] planks = said(saying);
        return planks == null || k >= planks.length ? -2 : planks[k];
    }

    int can() {
        int bits = 0;
        for (int s = 0; s < sayings.size(); s++) {
            bits |= said(s) == null ? 0 : 1 << s;
        }
        return bits;
    }

    long rows(int n) {
        if (n < 0 || n > 9) {
            return Long.MIN_VALUE;
        }
        long rows = 1;
        for (int beat = 0; beat < n; beat++) {
            Set<Integer> unlike = new HashSet<>();
            for (int plank = 0; plank < 16 && !men.isEmpty(); plank++) {
                if (reaches(beat % men.size(), plank)) {
                    unlike.add(tones[plank]);
                }
            }
            rows *= unlike.size();
        }
        return rows;
    }

    int thresh() {
        int all = Arrays.stream(corn).sum();
        int[][] taken = new int[men.size()][16];
        int[] left = corn.clone();
        int beat = 0;
        while (all > 0 && beat < 4 * 144) {
            if (men.isEmpty()) {
                return -2;
            }
            all -= takesOne(beat % men.size(), taken, left, new boolean[men.size()]) ? 1 : 0;
            beat++;
        }
        return all > 0 ? -2 : beat;
    }

    /** One CORN more by a man, if others can take for him what he leaves them: the way of a flow. */
    private boolean takesOne(int man, int[][] taken, int[] left, boolean[] asked) {
        asked[man] = true;
        for (int plank = 0; plank < 16; plank++) {
            if (reaches(man, plank) && left[plank] > 0) {
                left[plank]--;
                taken[man][plank]++;
                return true;
            }
        }
        for (int plank = 0; plank < 16; plank++) {
            for (int other = 0; other < men.size() && reaches(man, plank); other++) {
                if (!asked[other] && taken[other][plank] > 0 && takesOne(other, taken, left, asked)) {
                    taken[other][plank]--;
                    taken[man][plank]++;
                    return true;
                }
            }
        }
        return false;
    }

    int tune(int what) {
        if (outside(what, 2)) {
            return -1;
        }
        int best = 0;
        int most = -1;
        for (int plank = 0; plank < 16; plank++) {
            int was = tones[plank];
            for (int tone = 0; tone < 8; tone++) {
                tones[plank] = tone;
                int many = Integer.bitCount(can());
                best = many > most ? 8 * plank + tone : best;
                most = Math.max(most, many);
            }
            tones[plank] = was;
        }
        return what == 0 ? best : most;
    }

    // ---- sounds

    private List<Integer> sounds(int shelf) {
        List<Integer> sounds = new ArrayList<>();
        for (byte tone : (byte[]) shelves[shelf]) {
            if (outside(tone, 8) || sounds.size() == 6) {
                break;
            }
            sounds.add((int) tone);
        }
        return sounds;
    }

    private int slipBits(List<Integer> sounds, int saying) {
        int[] row = sayings.get(saying);
        if (row.length != sounds.size()) {
            return -2;
        }
        int bits = 0;
        for (int k = 0; k < row.length; k++) {
            bits |= row[k] == sounds.get(k) ? 0 : 1 << k;
        }
        return bits;
    }

    private int nearestTo(List<Integer> sounds) {
        int best = -2;
        for (int s = sayings.size() - 1; s >= 0; s--) {
            int bits = slipBits(sounds, s);
            if (bits != -2 && (best == -2 || Integer.bitCount(bits) <= Integer.bitCount(slipBits(sounds, best)))) {
                best = s;
            }
        }
        return best;
    }

    int nearest(int shelf, int what) {
        if (outside(what, 2) || bytes(shelf) != 0) {
            return outside(what, 2) ? -1 : bytes(shelf);
        }
        int best = nearestTo(sounds(shelf));
        return what == 0 || best == -2 ? best : Integer.bitCount(slipBits(sounds(shelf), best));
    }

    long likely(int shelf, int saying, int part) {
        if (bytes(shelf) != 0 || outside(saying, sayings.size()) || outside(part, 2) || men.isEmpty()) {
            return Long.MIN_VALUE;
        }
        BigInteger one = weight(sounds(shelf), saying);
        if (one.signum() == 0) {
            return part;
        }
        BigInteger all = BigInteger.ZERO;
        for (int s = 0; s < sayings.size(); s++) {
            all = all.add(weight(sounds(shelf), s));
        }
        return (part == 0 ? one : all).divide(one.gcd(all)).longValueExact();
    }

    private BigInteger weight(List<Integer> sounds, int saying) {
        int bits = slipBits(sounds, saying);
        BigInteger weight = bits == -2 ? BigInteger.ZERO : BigInteger.ONE;
        for (int k = 0; k < sounds.size(); k++) {
            int arm = men.get(k % men.size())[2];
            weight = weight.multiply(BigInteger.valueOf((bits >> k & 1) == 0 ? 7 * arm : 12 - arm));
        }
        return weight;
    }

    int slips(int shelf, int saying) {
        if (outside(saying, sayings.size()) || bytes(shelf) != 0) {
            return outside(saying, sayings.size()) ? -1 : bytes(shelf);
        }
        return slipBits(sounds(shelf), saying);
    }

    int apart(int ab) {
        if (ab < 0 || outside(ab / 10, sayings.size()) || outside(ab % 10, sayings.size())) {
            return -1;
        }
        List<Integer> one = new ArrayList<>();
        for (int tone : sayings.get(ab / 10)) {
            one.add(tone);
        }
        int bits = slipBits(one, ab % 10);
        return bits == -2 ? -2 : Integer.bitCount(bits);
    }

    int closest() {
        for (int by = 0; by <= 6; by++) {
            for (int ab = 0; ab < 80; ab++) {
                if (ab % 10 > ab / 10 && apart(ab) == by) {
                    return ab;
                }
            }
        }
        return -2;
    }

    int begins(int saying) {
        if (outside(saying, sayings.size())) {
            return -1;
        }
        int bits = 0;
        for (int s = 0; s < sayings.size(); s++) {
            int[] part = sayings.get(saying);
            boolean longEnough = sayings.get(s).length >= part.length;
            bits |= longEnough && s != saying && Arrays.equals(Arrays.copyOf(sayings.get(s), part.length), part) ? 1 << s : 0;
        }
        return bits;
    }

    // ---- turns of men

    private boolean strikesOn(int man, int beat) {
        for (int on = man + men.get(man)[3]; on <= beat; on += men.size()) {
            if (on == beat) {
                return true;
            }
        }
        return false;
    }

    int meet(int what) {
        if (outside(what, 2)) {
            return -1;
        }
        List<Integer> twos = new ArrayList<>();
        for (int a = 0; a < men.size(); a++) {
            for (int b = a + 1; b < men.size(); b++) {
                boolean once = false;
                for (int beat = 0; beat < 100; beat++) {
                    once |= strikesOn(a, beat) && strikesOn(b, beat);
                }
                if (once) {
                    twos.add(10 * a + b);
                }
            }
        }
        return what == 1 ? twos.size() : twos.isEmpty() ? -2 : twos.get(0);
    }

    private int strikers(int beat) {
        int many = 0;
        for (int man = 0; man < men.size(); man++) {
            many += strikesOn(man, beat) ? 1 : 0;
        }
        return many;
    }

    int first(int n) {
        int beat = 0;
        while (beat < 100 && strikers(beat) != n) {
            beat++;
        }
        return n < 0 || n > 4 ? -1 : beat == 100 ? -2 : beat;
    }

    int silent() {
        int many = 0;
        for (int beat = 0; beat < 100; beat++) {
            many += strikers(beat) == 0 ? 1 : 0;
        }
        return many;
    }

    int byTurns(int ab, int n, int what) {
        boolean two = ab >= 0 && !outside(ab / 10, men.size()) && !outside(ab % 10, men.size()) && ab / 10 != ab % 10;
        if (!two || n < 1 || n > 4 || outside(what, 2)) {
            return -2000000000;
        }
        int[] left = corn.clone();
        int best = turn(left, 16, ab, n);
        int plank = 16;
        for (int p = 0; p < 16; p++) {
            int found = reaches(ab / 10, p) ? turn(left, p, ab, n) : best;
            plank = found > best ? p : plank;
            best = Math.max(best, found);
        }
        return what == 0 ? best : plank;
    }

    /** What the first of two has more than the other, if he strikes a PLANK now and n turns are left. */
    private int turn(int[] left, int plank, int ab, int n) {
        int took = plank < 16 && left[plank] > 0 ? 1 : 0;
        int other = ab % 10;
        int back = 10 * other + ab / 10;
        if (n == 1) {
            return took;
        }
        if (took == 1) {
            left[plank]--;
        }
        int worst = turn(left, 16, back, n - 1);
        for (int p = 0; p < 16; p++) {
            // a PLANK without CORN is no more than a rest
            worst = reaches(other, p) && left[p] > 0 ? Math.max(worst, turn(left, p, back, n - 1)) : worst;
        }
        if (took == 1) {
            left[plank]++;
        }
        return took - worst;
    }

    int drawn(int seed, int n, int saying, int what) {
        if (n < 1 || n > 30 || outside(saying, sayings.size()) || outside(what, 2) || men.isEmpty()) {
            return -2000000000;
        }
        int z = seed;
        int right = 0;
        int near = 0;
        for (int night = 0; night < n; night++) {
            List<Integer> sounds = new ArrayList<>();
            for (int tone : sayings.get(saying)) {
                z = z * 1103515245 + 12345;
                boolean good = (z >>> 8) % 12 < men.get(sounds.size() % men.size())[2];
                sounds.add(good ? tone : (tone + 1 + (z >>> 16) % 7) % 8);
            }
            right += slipBits(sounds, saying) == 0 ? 1 : 0;
            near += nearestTo(sounds) == saying ? 1 : 0;
        }
        return what == 0 ? right : near;
    }

    // ---- in deed

    int strike(int plank) {
        if (outside(plank, 17)) {
            return -1;
        }
        if (men.isEmpty() || plank < 16 && !reaches(led[0] % men.size(), plank)) {
            return -5;
        }
        int loud = plank == 16 ? 0 : loud(led[0] % men.size(), tones[plank], corn[plank], led[0]);
        heard.add(0, loud > 0 ? tones[plank] : 8);
        led[0]++;
        led[1] += plank == 16 ? 0 : 1;
        led[2] += loud > 0 ? 1 : 0;
        if (plank < 16 && corn[plank] > 0) {
            corn[plank]--;
            led[3]++;
        }
        return loud;
    }

    int sow(int plank) {
        if (outside(plank, 16)) {
            return -1;
        }
        corn[plank] = Math.min(9, corn[plank] + 1);
        led[4]++;
        return corn[plank];
    }

    int led(int what) {
        if (!outside(what, 5)) {
            return led[what];
        }
        if (what < 10 || what > 15) {
            return -1;
        }
        return what - 10 < heard.size() ? heard.get(what - 10) : -2;
    }

    int image() {
        imageCorn = corn.clone();
        imageLed = led.clone();
        imageHeard = new ArrayList<>(heard);
        return led[0];
    }

    int back() {
        if (imageCorn == null) {
            return -5;
        }
        corn = imageCorn.clone();
        led = imageLed.clone();
        heard = new ArrayList<>(imageHeard);
        return led[0];
    }

    int undo() {
        return step(done, undone, 2);
    }

    int redo() {
        return step(undone, done, 3);
    }

    private int step(List<int[]> from, List<int[]> to, int side) {
        if (from.isEmpty()) {
            return -5;
        }
        int[] change = from.remove(from.size() - 1);
        become(change[0], change[1], change[side]);
        to.add(change);
        return from.size();
    }

    // ---- acts, shelves

    int body(int kind) {
        if (outside(kind, 8)) {
            return -1;
        }
        if (kinds.size() == 50) {
            return -3;
        }
        kinds.add(kind);
        return kinds.size() - 1;
    }

    int act(int body, int act, int x) {
        ran = new ArrayList<>();
        if (outside(body, kinds.size()) || outside(act, 4)) {
            return 0;
        }
        int answer = JavaFlails.acted(JavaFlails.made(kinds.get(body), body), act, x);
        ran.addAll(JavaFlails.RAN);
        return answer;
    }

    int trace(int i) {
        return outside(i, Math.min(24, ran.size())) ? -1 : ran.get(i);
    }

    int keep(int shelf, int body) {
        if (outside(shelf, 6) || body != -1 && outside(body, kinds.size())) {
            return -1;
        }
        shelves[shelf] = body == -1 ? null : JavaFlails.made(kinds.get(body), body);
        return 1;
    }

    int row(int shelf, int sort, int n) {
        if (outside(shelf, 6) || outside(sort, 5) || n > 60) {
            return -1;
        }
        if (n < 0) {
            return -14;
        }
        switch (sort) {
            case 0: shelves[shelf] = new byte[n]; break;
            case 1: shelves[shelf] = new short[n]; break;
            case 2: shelves[shelf] = new int[n]; break;
            case 3: shelves[shelf] = new long[n]; break;
            default: shelves[shelf] = new boolean[n];
        }
        return 1;
    }

    int put(int shelf, int i, long v) {
        if (outside(shelf, 6)) {
            return -1;
        }
        Object row = shelves[shelf];
        if (row == null || row instanceof JavaFlails.Flail) {
            return row == null ? -11 : -12;
        }
        if (outside(i, java.lang.reflect.Array.getLength(row))) {
            return -13;
        }
        if (row instanceof byte[] bytes) {
            bytes[i] = (byte) v;
        } else if (row instanceof short[] shorts) {
            shorts[i] = (short) v;
        } else if (row instanceof int[] ints) {
            ints[i] = (int) v;
        } else if (row instanceof long[] longs) {
            longs[i] = v;
        } else {
            ((boolean[]) row)[i] = v != 0;
        }
        return 1;
    }

    long element(int shelf, int i) {
        boolean isRow = !outside(shelf, 6) && shelves[shelf] != null && shelves[shelf].getClass().isArray();
        if (!isRow || outside(i, java.lang.reflect.Array.getLength(shelves[shelf]))) {
            return Long.MIN_VALUE;
        }
        if (shelves[shelf] instanceof boolean[] booleans) {
            return booleans[i] ? 1 : 0;
        }
        return java.lang.reflect.Array.getLong(shelves[shelf], i);
    }

    /** The host itself refuses. */
    int shift(int shelf, int i, int other, int j, int n) {
        if (outside(shelf, 6) || outside(other, 6)) {
            return -1;
        }
        try {
            System.arraycopy(shelves[shelf], i, shelves[other], j, n);
            return n;
        } catch (NullPointerException e) {
            return -11;
        } catch (ArrayStoreException e) {
            return -12;
        } catch (IndexOutOfBoundsException e) {
            return -13;
        }
    }

    int taken(int shelf, int k) {
        if (outside(shelf, 6) || outside(k, 8)) {
            return -1;
        }
        if (shelves[shelf] == null) {
            return -11;
        }
        return KINDS[k].isInstance(shelves[shelf]) ? Arrays.asList(KINDS).indexOf(shelves[shelf].getClass()) : -12;
    }

    int count(int what) {
        return outside(what, 6) ? -1
            : new int[] {men.size(), sayings.size(), tape.length(), done.size(), kinds.size(), ran.size()}[what];
    }

    // ---- what several calls ask

    private static boolean outside(int v, int end) {
        return v < 0 || v >= end;
    }

    private int bytes(int shelf) {
        if (outside(shelf, 6)) {
            return -1;
        }
        return shelves[shelf] == null ? -11 : shelves[shelf] instanceof byte[] ? 0 : -12;
    }
}
