import java.util.HashSet;
import java.util.Random;
import java.util.Set;

/** How things are said, rows, threshing all, tuning (promises 12 to 16). */
public final class SpeechTest {
    public static void main(String[] args) {
        byHand();
        threshByHand();
        Random random = new Random(5);
        for (int run = 0; run < 2000; run++) {
            ThreshedSound x = Due.anyFloor(random);
            rowsAsTold(x);
            Due.is("thresh", x.thresh(), fewest(x));
            if (run % 4 == 0) {
                sayAsPlanned(random.nextLong());
            }
            if (run % 20 == 0) {
                tuneAsMended(Due.anyFloor(random));
            }
        }
        Due.end();
    }

    private static void byHand() {
        ThreshedSound x = new ThreshedSound();
        Due.is("rows(-1)", x.rows(-1), Long.MIN_VALUE);
        Due.is("rows(10)", x.rows(10), Long.MIN_VALUE);
        Due.is("rows(0)", x.rows(0), 1);
        Due.is("rows(1)", x.rows(1), 0);
        Due.is("say(0, 0)", x.say(0, 0), -1);
        Due.is("can()", x.can(), 0);
        Due.is("tune(-1)", x.tune(-1), -1);
        Due.is("tune(2)", x.tune(2), -1);
        Due.tell(x, 3, 3, 3);
        Due.is("no men", x.say(0, 0), -2);
        Due.is("no men", x.can(), 0);
        x.man(5);
        x.mend(4, 0, 3);
        x.mend(6, 0, 3);
        x.mend(4, 1, 1);
        Due.is("law", Due.lay(x, "c|b=1"), 1);
        // 4 is heard by its corn, then by the beat, then no plank is
        Due.is("the third is not heard", x.say(0, 0), -2);
        Due.is("can()", x.can(), 0);
        x.mend(6, 1, 1);
        Due.is("say(0, 0)", x.say(0, 0), 4);
        Due.is("say(0, 1)", x.say(0, 1), 4);
        Due.is("say(0, 2)", x.say(0, 2), 6);
        Due.is("say(0, 3)", x.say(0, 3), -2);
        Due.is("say(0, MAX)", x.say(0, Integer.MAX_VALUE), -2);
        Due.is("say(0, -1)", x.say(0, -1), -1);
        Due.is("say(1, 0)", x.say(1, 0), -1);
        Due.is("say(-1, 0)", x.say(-1, 0), -1);
        Due.is("in thought alone", x.of(4, 1), 1);
        Due.is("can()", x.can(), 1);
        Due.is("tune(0): as it is", x.tune(0), 0);
        Due.is("tune(1)", x.tune(1), 1);
        Due.is("rows(9)", x.rows(9), 512);
        x.strike(16);
        x.man(15);
        x.mend(1, 3, 0);
        Due.is("by another man, from beat 0 on", x.can(), 0);
        Due.is("tune(0): plank 15, tone 3", x.tune(0), 8 * 15 + 3);
    }

    private static void threshByHand() {
        ThreshedSound x = new ThreshedSound();
        Due.is("no men, no corn", x.thresh(), 0);
        x.sow(0);
        Due.is("no men", x.thresh(), -2);
        for (int man = 0; man < 4; man++) {
            x.man(15);
            x.mend(man, 3, man == 3 ? 6 : 0);
        }
        for (int plank = 0; plank < 15; plank++) {
            x.mend(plank, 1, 9);
        }
        Due.is("135 by the last of four", x.thresh(), 540);
        x.mend(15, 1, 9);
        Due.is("the others help", x.thresh(), 540);
        x.mend(3, 3, 2);
        Due.is("nobody's", x.thresh(), -2);
    }

    /** A thing said is a plan: the least plank at each beat that keeps it heard. */
    private static void sayAsPlanned(long seed) {
        ThreshedSound x = Due.anyFloor(new Random(seed));
        int bits = 0;
        for (int saying = 0; saying < x.count(1); saying++) {
            int[] planks = planned(seed, saying, x.of(saying, 8));
            for (int k = 0; k <= planks.length; k++) {
                Due.is("say", x.say(saying, k), k == planks.length || planks[planks.length - 1] == 16 ? -2 : planks[k]);
            }
            bits |= planks[planks.length - 1] == 16 ? 0 : 1 << saying;
        }
        Due.is("can()", x.can(), bits);
    }

    /** 16 as the last of them: it can't be said. */
    private static int[] planned(long seed, int saying, int length) {
        int[] planks = new int[length];
        boolean can = true;
        for (int k = 0; k < length; k++) {
            // on a floor of its own, as it takes some hundred calls
            ThreshedSound x = Due.anyFloor(new Random(seed));
            Due.bytes(x, 4, java.util.Arrays.copyOf(planks, k + 1));
            int plank = can ? 0 : 16;
            while (plank < 16 && !(x.plan(4, 0) == k + 1 && x.tone(4, k) == x.of(10 * saying + k, 7))) {
                plank++;
                x.put(4, k, plank);
            }
            planks[k] = plank;
            can = plank < 16;
        }
        return planks;
    }

    private static void rowsAsTold(ThreshedSound x) {
        Set<String> rows = new HashSet<>();
        rows.add("");
        int men = x.count(0);
        String[] tones = new String[men];
        for (int man = 0; man < men; man++) {
            tones[man] = "";
            int reach = x.reach(man);
            for (int plank = 0; plank < 16; plank++) {
                tones[man] += (reach >> plank & 1) == 1 ? String.valueOf(x.of(plank, 0)) : "";
            }
        }
        for (int n = 0; n <= 4; n++) {
            Due.is("rows(" + n + ")", x.rows(n), rows.size());
            Set<String> longer = new HashSet<>();
            for (String row : rows) {
                for (int i = 0; men > 0 && i < tones[n % men].length(); i++) {
                    longer.add(row + tones[n % men].charAt(i));
                }
            }
            rows = longer;
        }
    }

    /** Beat by beat, each stroke an augmenting way among the men's strokes. */
    private static int fewest(ThreshedSound x) {
        int men = x.count(0);
        int[] left = new int[16];
        int all = 0;
        for (int plank = 0; plank < 16; plank++) {
            left[plank] = x.of(plank, 1);
            all += left[plank];
        }
        if (all == 0) {
            return 0;
        }
        int[] reach = new int[men];
        int anybody = 0;
        for (int man = 0; man < men; man++) {
            reach[man] = x.reach(man);
            anybody |= reach[man];
        }
        for (int plank = 0; plank < 16; plank++) {
            if (left[plank] > 0 && (anybody >> plank & 1) == 0) {
                return -2;
            }
        }
        int[][] taken = new int[men][16];
        for (int beat = 0; beat < 2000; beat++) {
            if (augment(beat % men, reach, taken, left, 0)) {
                all--;
            }
            if (all == 0) {
                return beat + 1;
            }
        }
        return -99;
    }

    private static boolean augment(int man, int[] reach, int[][] taken, int[] left, int seen) {
        for (int plank = 0; plank < 16; plank++) {
            if ((reach[man] >> plank & 1) == 1 && left[plank] > 0) {
                left[plank]--;
                taken[man][plank]++;
                return true;
            }
        }
        for (int other = 0; other < reach.length; other++) {
            for (int plank = 0; plank < 16; plank++) {
                boolean free = other != man && (seen >> other & 1) == 0;
                if (free && (reach[man] >> plank & 1) == 1 && taken[other][plank] > 0
                    && augment(other, reach, taken, left, seen | 1 << man)) {
                    taken[other][plank]--;
                    taken[man][plank]++;
                    return true;
                }
            }
        }
        return false;
    }

    private static void tuneAsMended(ThreshedSound x) {
        int best = 0;
        int most = -1;
        int which = x.tune(0);
        int many = x.tune(1);
        for (int plank = 0; plank < 16; plank++) {
            int was = x.of(plank, 0);
            for (int tone = 0; tone < 8; tone++) {
                x.mend(plank, 0, tone);
                int sayable = Integer.bitCount(x.can());
                if (sayable > most) {
                    most = sayable;
                    best = 8 * plank + tone;
                }
            }
            x.mend(plank, 0, was);
        }
        Due.is("tune(0)", which, best);
        Due.is("tune(1)", many, most);
        Due.is("tune(0) again", x.tune(0), best);
    }
}
