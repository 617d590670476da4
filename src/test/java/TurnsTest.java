import java.util.Random;

/** Turns of men, nights by draws (promises 23 to 27). */
public final class TurnsTest {
    public static void main(String[] args) {
        meetByHand();
        byTurnsByHand();
        drawnByHand();
        Random random = new Random(13);
        for (int run = 0; run < 1500; run++) {
            ThreshedSound x = Due.anyFloor(random);
            beats(x);
            nights(Due.anyFloor(random), random);
            if (run % 5 == 0) {
                turns(x);
            }
        }
        Due.end();
    }

    private static void meetByHand() {
        ThreshedSound x = new ThreshedSound();
        Due.is("meet(2)", x.meet(2), -1);
        Due.is("meet(-1)", x.meet(-1), -1);
        Due.is("meet(0)", x.meet(0), -2);
        Due.is("first(0)", x.first(0), 0);
        Due.is("first(4)", x.first(4), -2);
        Due.is("first(5)", x.first(5), -1);
        Due.is("first(-1)", x.first(-1), -1);
        Due.is("silent()", x.silent(), 100);
        x.man(0);
        Due.is("one man strikes always", x.silent(), 0);
        Due.is("first(0)", x.first(0), -2);
        x.mend(0, 5, 9);
        Due.is("late", x.silent(), 9);
        Due.is("first(1)", x.first(1), 9);
        x.man(0);
        x.man(0);
        x.man(0);
        // beats 9, 1, 2, 3, every 4th behind: 0 and 1 meet
        Due.is("meet(0)", x.meet(0), 1);
        Due.is("meet(1)", x.meet(1), 1);
        Due.is("first(2)", x.first(2), 9);
        Due.is("first(0)", x.first(0), 0);
        Due.is("silent()", x.silent(), 25);
        x.mend(2, 5, 3);
        x.mend(3, 5, 2);
        Due.is("all meet", x.meet(1), 6);
        Due.is("first(4)", x.first(4), 9);
        Due.is("first(3)", x.first(3), 5);
    }

    private static void byTurnsByHand() {
        ThreshedSound x = new ThreshedSound();
        x.man(0);
        Due.is("one man", x.byTurns(1, 1, 0), -2000000000);
        x.man(1);
        Due.is("like ones", x.byTurns(11, 1, 0), -2000000000);
        Due.is("like ones", x.byTurns(0, 1, 0), -2000000000);
        Due.is("no such", x.byTurns(2, 1, 0), -2000000000);
        Due.is("below", x.byTurns(-1, 1, 0), -2000000000);
        Due.is("below", x.byTurns(-10, 1, 0), -2000000000);
        Due.is("n 0", x.byTurns(1, 0, 0), -2000000000);
        Due.is("n 5", x.byTurns(1, 5, 0), -2000000000);
        Due.is("what 2", x.byTurns(1, 1, 2), -2000000000);
        Due.is("what -1", x.byTurns(1, 1, -1), -2000000000);
        Due.is("no corn", x.byTurns(1, 4, 0), 0);
        Due.is("no corn: rest", x.byTurns(1, 4, 1), 16);
        x.mend(0, 3, 1);
        x.mend(1, 3, 1);
        x.mend(4, 1, 1);
        x.mend(1, 1, 1);
        // 4 is the first one's alone, 0 and 1 are both men's
        Due.is("n 1", x.byTurns(1, 1, 0), 1);
        Due.is("n 1: the least", x.byTurns(1, 1, 1), 1);
        Due.is("n 2: what the other would take", x.byTurns(1, 2, 0), 1);
        Due.is("n 2", x.byTurns(1, 2, 1), 1);
        Due.is("n 3", x.byTurns(1, 3, 0), 2);
        Due.is("the other first", x.byTurns(10, 2, 0), 0);
        Due.is("the other first", x.byTurns(10, 2, 1), 1);
        Due.is("nothing was struck", x.of(1, 1), 1);
    }

    private static void drawnByHand() {
        ThreshedSound x = new ThreshedSound();
        Due.tell(x, 3, 4);
        Due.is("no men", x.drawn(1, 1, 0, 0), -2000000000);
        x.man(0);
        Due.is("n 0", x.drawn(1, 0, 0, 0), -2000000000);
        Due.is("n 31", x.drawn(1, 31, 0, 0), -2000000000);
        Due.is("no such saying", x.drawn(1, 1, 1, 0), -2000000000);
        Due.is("no such saying", x.drawn(1, 1, -1, 0), -2000000000);
        Due.is("what 2", x.drawn(1, 1, 0, 2), -2000000000);
        Due.is("what -1", x.drawn(1, 1, 0, -1), -2000000000);
        Due.is("always right", x.drawn(-77, 30, 0, 0), 30);
        x.mend(0, 4, 0);
        Due.is("never right", x.drawn(-77, 30, 0, 0), 0);
        Due.is("but nearest", x.drawn(-77, 30, 0, 1), 30);
        Due.tell(x, 3, 4);
        Due.is("the least of like ones", x.drawn(-77, 30, 1, 1), 0);
    }

    private static void beats(ThreshedSound x) {
        int men = x.count(0);
        int[] strikers = new int[100];
        boolean[][] on = new boolean[4][100];
        for (int man = 0; man < men; man++) {
            for (int beat = man + x.of(man, 5); beat < 100; beat += men) {
                strikers[beat]++;
                on[man][beat] = true;
            }
        }
        int silent = 0;
        int[] first = {-2, -2, -2, -2, -2};
        for (int beat = 99; beat >= 0; beat--) {
            silent += strikers[beat] == 0 ? 1 : 0;
            first[strikers[beat]] = beat;
        }
        Due.is("silent()", x.silent(), silent);
        for (int n = 0; n < 5; n++) {
            Due.is("first(" + n + ")", x.first(n), first[n]);
        }
        int twos = 0;
        int least = -2;
        for (int a = 3; a >= 0; a--) {
            for (int b = 3; b > a; b--) {
                boolean at = false;
                for (int beat = 0; beat < 100; beat++) {
                    at |= on[a][beat] && on[b][beat];
                }
                twos += at ? 1 : 0;
                least = at ? 10 * a + b : least;
            }
        }
        Due.is("meet(0)", x.meet(0), least);
        Due.is("meet(1)", x.meet(1), twos);
    }

    private static void nights(ThreshedSound x, Random random) {
        int sayings = x.count(1);
        if (sayings == 0 || x.count(0) == 0) {
            return;
        }
        int seed = random.nextInt();
        int n = Due.between(random, 1, 30);
        int saying = random.nextInt(sayings);
        int z = seed;
        int right = 0;
        int near = 0;
        int[] tones = new int[x.of(saying, 8)];
        int[] arms = new int[x.count(0)];
        for (int k = 0; k < tones.length; k++) {
            tones[k] = x.of(10 * saying + k, 7);
        }
        for (int man = 0; man < arms.length; man++) {
            arms[man] = x.of(man, 4);
        }
        for (int night = 0; night < n; night++) {
            int[] heard = new int[tones.length];
            boolean all = true;
            for (int k = 0; k < heard.length; k++) {
                z = z * 1103515245 + 12345;
                boolean good = (z >>> 8) % 12 < arms[k % arms.length];
                heard[k] = good ? tones[k] : (tones[k] + 1 + (z >>> 16) % 7) % 8;
                Due.is("a slip is another tone", good == (heard[k] == tones[k]) ? 1 : 0, 1);
                all &= good;
            }
            right += all ? 1 : 0;
            Due.bytes(x, 3, heard);
            near += x.nearest(3, 0) == saying ? 1 : 0;
        }
        Due.is("drawn 0", x.drawn(seed, n, saying, 0), right);
        Due.is("drawn 1", x.drawn(seed, n, saying, 1), near);
    }

    private static void turns(ThreshedSound x) {
        int[] corn = new int[16];
        for (int plank = 0; plank < 16; plank++) {
            corn[plank] = x.of(plank, 1);
        }
        int[] reach = new int[x.count(0)];
        for (int man = 0; man < reach.length; man++) {
            reach[man] = x.reach(man);
        }
        for (int a = 0; a < reach.length; a++) {
            for (int b = 0; b < reach.length; b++) {
                for (int n = 1; n <= 4 && a != b; n++) {
                    if (n < 4 || (a + b) % 3 == 0) {
                        turnsOfTwo(x, corn, reach, 10 * a + b, n);
                    }
                }
            }
        }
    }

    private static void turnsOfTwo(ThreshedSound x, int[] corn, int[] reach, int ab, int n) {
        int first = reach[ab / 10];
        int other = reach[ab % 10];
        int best = -best(corn, other, first, n - 1);
        int plank = 16;
        for (int p = 0; p < 16; p++) {
            if ((first >> p & 1) == 1) {
                int found = struck(corn, p, other, first, n - 1);
                plank = found > best ? p : plank;
                best = Math.max(best, found);
            }
        }
        Due.is("byTurns 0", x.byTurns(ab, n, 0), best);
        Due.is("byTurns 1", x.byTurns(ab, n, 1), plank);
    }

    /** Every plank is tried at every turn. */
    private static int best(int[] corn, int mine, int yours, int n) {
        if (n == 0) {
            return 0;
        }
        int best = -best(corn, yours, mine, n - 1);
        for (int p = 0; p < 16; p++) {
            if ((mine >> p & 1) == 1) {
                best = Math.max(best, struck(corn, p, yours, mine, n - 1));
            }
        }
        return best;
    }

    private static int struck(int[] corn, int plank, int yours, int mine, int left) {
        int took = corn[plank] > 0 ? 1 : 0;
        corn[plank] -= took;
        int found = took - best(corn, yours, mine, left);
        corn[plank] += took;
        return found;
    }
}
