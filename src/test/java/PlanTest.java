import java.util.Random;

/** Plans of strokes, in thought (promises 9 to 11). */
public final class PlanTest {
    public static void main(String[] args) {
        byHand();
        ends();
        refusals();
        eachCallWalksAnew();
        againstDeeds();
        Due.end();
    }

    private static void byHand() {
        ThreshedSound x = new ThreshedSound();
        for (int plank = 0; plank < 16; plank++) {
            x.mend(plank, 0, plank % 8);
        }
        x.man(5);
        x.mend(0, 3, 6);
        x.mend(1, 1, 1);
        x.mend(2, 1, 2);
        Due.tell(x, 1, 2);
        Due.tell(x, 2);
        Due.tell(x, 2, 2);
        Due.tell(x, 3, 1, 2);
        Due.bytes(x, 0, 1, 16, 2, 3, 1, 10, 2, 2);
        Due.is("beats", x.plan(0, 0), 8);
        Due.is("heard", x.plan(0, 1), 7);
        Due.is("corn", x.plan(0, 2), 0);
        Due.is("threshed", x.plan(0, 3), 7);
        Due.is("said", x.plan(0, 4), 1 + 2 + 4 + 8);
        Due.is("1, 2", x.behind(0, 0, 1), 5);
        Due.is("2", x.behind(0, 1, 1), 2);
        Due.is("2, 2", x.behind(0, 2, 1), 6);
        Due.is("3, 1, 2", x.behind(0, 3, 1), 5);
        Due.is("a rest", x.tone(0, 1), -2);
        Due.is("the last", x.tone(0, 7), 2);
        Due.is("behind it", x.tone(0, 8), -2);
        Due.is("far", x.tone(0, Integer.MAX_VALUE), -2);
        Due.is("corn of 2", x.behind(0, 2, 0), 0);
        Due.is("in thought alone", x.of(2, 1), 2);
        Due.is("no beat in deed", x.led(0), 0);
        Due.is("law", Due.lay(x, "!c"), 1);
        Due.is("heard", x.plan(0, 1), 4);
        Due.is("not heard", x.tone(0, 0), -2);
        Due.is("not heard", x.tone(0, 6), -2);
        Due.is("said", x.plan(0, 4), 1 + 2 + 8);
        Due.is("1, 2 with 10", x.behind(0, 0, 1), 5);
        x.mend(2, 1, 4);
        Due.is("corn", x.plan(0, 2), 1);
        Due.is("not threshed", x.plan(0, 3), -2);
    }

    private static void ends() {
        ThreshedSound x = new ThreshedSound();
        Due.bytes(x, 0, new int[60]);
        Due.is("no men", x.plan(0, 0), 0);
        Due.is("no men, no corn", x.plan(0, 3), 0);
        x.sow(3);
        Due.is("no men, corn", x.plan(0, 2), 1);
        Due.is("no men, corn", x.plan(0, 3), -2);
        x.man(0);
        Due.is("40 at most", x.plan(0, 0), 40);
        Due.is("tone 39", x.tone(0, 39), 0);
        Due.is("tone 40", x.tone(0, 40), -2);
        x.put(0, 7, -1);
        Due.is("-1", x.plan(0, 0), 7);
        x.put(0, 6, 17);
        Due.is("17", x.plan(0, 0), 6);
        x.put(0, 5, 15);
        Due.is("too far", x.plan(0, 0), 5);
        x.man(15);
        Due.is("the other man", x.plan(0, 0), 1);
        x.put(0, 1, 16);
        Due.is("a rest", x.plan(0, 0), 3);
        x.strike(0);
        Due.is("whatever beat it is in deed", x.plan(0, 0), 3);
        x.put(0, 0, 256);
        Due.is("lowest bits", x.plan(0, 0), 3);
    }

    private static void refusals() {
        ThreshedSound x = new ThreshedSound();
        x.body(0);
        x.keep(1, 0);
        x.row(2, 2, 4);
        Due.bytes(x, 3);
        int[] shelves = {-1, 6, 0, 1, 2, 3};
        int[] due = {-1, -1, -11, -12, -12, 0};
        for (int i = 0; i < 6; i++) {
            Due.is("plan", x.plan(shelves[i], 0), due[i]);
            Due.is("tone", x.tone(shelves[i], 0), due[i] == 0 ? -2 : due[i]);
            Due.is("behind", x.behind(shelves[i], 15, 0), due[i]);
            Due.is("plan 5", x.plan(shelves[i], 5), -1);
            Due.is("plan -1", x.plan(shelves[i], -1), -1);
            Due.is("tone -1", x.tone(shelves[i], -1), -1);
            Due.is("behind plank 16", x.behind(shelves[i], 16, 0), -1);
            Due.is("behind plank -1", x.behind(shelves[i], -1, 0), -1);
            Due.is("behind saying 0", x.behind(shelves[i], 0, 1), -1);
            Due.is("behind 2", x.behind(shelves[i], 0, 2), -1);
            Due.is("behind -1", x.behind(shelves[i], 0, -1), -1);
        }
    }

    private static void eachCallWalksAnew() {
        ThreshedSound x = new ThreshedSound();
        x.man(0);
        Due.tell(x, 3);
        Due.bytes(x, 0, 0, 16);
        Due.bytes(x, 1, 16, 1);
        x.mend(0, 0, 3);
        x.mend(0, 1, 2);
        Due.is("tone of shelf 0", x.tone(0, 0), 3);
        Due.is("tone of shelf 1", x.tone(1, 0), -2);
        Due.is("corn behind shelf 0", x.behind(0, 0, 0), 1);
        Due.is("corn behind shelf 1", x.behind(1, 0, 0), 2);
        Due.is("whole on shelf 0", x.behind(0, 0, 1), 0);
        Due.is("whole on shelf 1", x.behind(1, 0, 1), -2);
        x.strike(0);
        Due.is("corn now", x.behind(0, 0, 0), 0);
        Due.is("beats of shelf 1", x.plan(1, 0), 2);
        Due.is("heard on shelf 1", x.plan(1, 1), 1);
    }

    /** What a plan tells comes true if it is struck from beat 0 on. */
    private static void againstDeeds() {
        Random random = new Random(3);
        for (int run = 0; run < 3000; run++) {
            ThreshedSound x = Due.anyFloor(random);
            int[] planks = anyPlanks(x, random);
            Due.bytes(x, 0, planks);
            int[] thought = new int[5];
            for (int what = 0; what < 5; what++) {
                thought[what] = x.plan(0, what);
            }
            int[] corn = new int[16];
            for (int plank = 0; plank < 16; plank++) {
                corn[plank] = x.behind(0, plank, 0);
            }
            int[] tones = new int[41];
            for (int beat = 0; beat <= 40; beat++) {
                tones[beat] = x.tone(0, beat);
            }
            int[] whole = new int[x.count(1)];
            for (int saying = 0; saying < whole.length; saying++) {
                whole[saying] = x.behind(0, saying, 1);
            }
            follow(x, planks, thought, corn, tones);
            said(x, tones, thought, whole);
        }
    }

    /** Mostly such as the man of the beat can reach. */
    private static int[] anyPlanks(ThreshedSound x, Random random) {
        int men = x.count(0);
        int[] reach = new int[men];
        for (int man = 0; man < men; man++) {
            reach[man] = x.reach(man) | 1 << 16;
        }
        int[] planks = new int[random.nextInt(46)];
        for (int i = 0; i < planks.length; i++) {
            planks[i] = random.nextInt(17);
            for (int tries = 0; men > 0 && tries < 9 && (reach[i % men] >> planks[i] & 1) == 0; tries++) {
                planks[i] = random.nextInt(17);
            }
        }
        return planks;
    }

    private static void follow(ThreshedSound x, int[] planks, int[] thought, int[] corn, int[] tones) {
        int[] left = new int[16];
        int all = 0;
        for (int plank = 0; plank < 16; plank++) {
            left[plank] = x.of(plank, 1);
            all += left[plank];
        }
        int threshed = all == 0 ? 0 : -2;
        int beats = 0;
        while (beats < 40 && beats < planks.length && x.strike(planks[beats]) >= 0) {
            int heard = x.led(10) == 8 ? -2 : x.led(10);
            Due.is("tone", tones[beats], heard);
            if (planks[beats] < 16 && left[planks[beats]] > 0) {
                left[planks[beats]]--;
                all--;
            }
            beats++;
            threshed = threshed == -2 && all == 0 ? beats : threshed;
        }
        Due.is("behind the last", tones[beats], -2);
        Due.is("beats", thought[0], beats);
        Due.is("heard", thought[1], x.led(2));
        Due.is("corn of all", thought[2], all);
        Due.is("threshed", thought[3], threshed);
        for (int plank = 0; plank < 16; plank++) {
            Due.is("corn", corn[plank], x.of(plank, 1));
            Due.is("corn left", left[plank], x.of(plank, 1));
        }
    }

    /** As texts: a tone a digit, what is not heard a dot. */
    private static void said(ThreshedSound x, int[] tones, int[] thought, int[] whole) {
        StringBuilder heard = new StringBuilder();
        for (int beat = 0; beat < thought[0]; beat++) {
            heard.append(tones[beat] == -2 ? "." : String.valueOf(tones[beat]));
        }
        int bits = 0;
        for (int saying = 0; saying < whole.length; saying++) {
            StringBuilder text = new StringBuilder();
            for (int k = 0; k < x.of(saying, 8); k++) {
                text.append(x.of(10 * saying + k, 7));
            }
            int at = heard.indexOf(text.toString());
            Due.is("whole", whole[saying], at < 0 ? -2 : at + text.length() - 1);
            bits |= at < 0 ? 0 : 1 << saying;
        }
        Due.is("said", thought[4], bits);
    }
}
