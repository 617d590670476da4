import java.math.BigInteger;
import java.util.Random;

/** What was said, from sounds with slips (promises 17 to 22). */
public final class SoundsTest {
    public static void main(String[] args) {
        byHand();
        likelyByHand();
        refusals();
        Random random = new Random(9);
        for (int run = 0; run < 3000; run++) {
            anySounds(random);
        }
        Due.end();
    }

    private static void byHand() {
        ThreshedSound x = new ThreshedSound();
        Due.is("closest() of none", x.closest(), -2);
        Due.tell(x, 1, 2, 3);
        Due.is("closest() of one", x.closest(), -2);
        Due.tell(x, 1, 2);
        Due.is("closest() of unlike lengths", x.closest(), -2);
        Due.tell(x, 7, 2, 0);
        Due.tell(x, 1, 2, 3);
        Due.tell(x, 1, 4, 3);
        Due.is("apart(0)", x.apart(0), 0);
        Due.is("apart(1)", x.apart(1), -2);
        Due.is("apart(2)", x.apart(2), 2);
        Due.is("apart(20)", x.apart(20), 2);
        Due.is("apart(3)", x.apart(3), 0);
        Due.is("apart(24)", x.apart(24), 3);
        Due.is("apart(5)", x.apart(5), -1);
        Due.is("apart(50)", x.apart(50), -1);
        Due.is("apart(-1)", x.apart(-1), -1);
        Due.is("apart(-10)", x.apart(-10), -1);
        Due.is("apart(100)", x.apart(100), -1);
        Due.is("closest()", x.closest(), 3);
        Due.is("begins(0)", x.begins(0), 1 << 3);
        Due.is("begins(1)", x.begins(1), 1 | 1 << 3);
        Due.is("begins(2)", x.begins(2), 0);
        Due.is("begins(5)", x.begins(5), -1);
        Due.is("begins(-1)", x.begins(-1), -1);
        Due.bytes(x, 0, 1, 4, 0, 9);
        Due.is("nearest", x.nearest(0, 0), 4);
        Due.is("by", x.nearest(0, 1), 1);
        Due.is("slips", x.slips(0, 0), 6);
        Due.is("slips", x.slips(0, 2), 3);
        Due.is("slips", x.slips(0, 1), -2);
        Due.bytes(x, 0, 1, 2, 0, -1);
        Due.is("nearest of like ones", x.nearest(0, 0), 0);
        Due.bytes(x, 0, 5, 5, 5, 5);
        Due.is("none of four", x.nearest(0, 0), -2);
        Due.is("none of four", x.nearest(0, 1), -2);
        Due.bytes(x, 0, 8, 1, 2);
        Due.is("no sounds", x.nearest(0, 0), -2);
        Due.is("no sounds", x.slips(0, 0), -2);
        Due.tell(x, 0, 1, 2, 3, 4, 5);
        Due.bytes(x, 0, 0, 1, 2, 3, 4, 4, 6, 7);
        Due.is("6 at most", x.nearest(0, 0), 5);
        Due.is("6 at most", x.slips(0, 5), 32);
    }

    private static void likelyByHand() {
        ThreshedSound x = new ThreshedSound();
        Due.tell(x, 1, 2);
        Due.tell(x, 1, 3);
        Due.tell(x, 1);
        Due.bytes(x, 0, 1, 2);
        Due.is("no men", x.likely(0, 0, 0), Long.MIN_VALUE);
        x.man(0);
        x.man(0);
        x.mend(1, 4, 6);
        // 12/12 * 6/12 against 12/12 * 6/12/7
        Due.is("above", x.likely(0, 0, 0), 7);
        Due.is("below", x.likely(0, 0, 1), 8);
        Due.is("above", x.likely(0, 1, 0), 1);
        Due.is("below", x.likely(0, 1, 1), 8);
        Due.is("other length", x.likely(0, 2, 0), 0);
        Due.is("other length", x.likely(0, 2, 1), 1);
        x.mend(1, 4, 0);
        Due.is("never right", x.likely(0, 0, 0), 0);
        Due.is("never right", x.likely(0, 0, 1), 1);
        Due.is("then the other", x.likely(0, 1, 0), 1);
        Due.is("then the other", x.likely(0, 1, 1), 1);
        x.put(0, 0, 4);
        Due.is("none can be", x.likely(0, 1, 0), 0);
        Due.is("none can be", x.likely(0, 1, 1), 1);
        Due.is("part 2", x.likely(0, 0, 2), Long.MIN_VALUE);
        Due.is("part -1", x.likely(0, 0, -1), Long.MIN_VALUE);
    }

    private static void refusals() {
        ThreshedSound x = new ThreshedSound();
        x.man(0);
        Due.tell(x, 1);
        x.body(0);
        x.keep(1, 0);
        x.row(2, 1, 4);
        int[] shelves = {-1, 6, 0, 1, 2};
        int[] due = {-1, -1, -11, -12, -12};
        for (int i = 0; i < 5; i++) {
            Due.is("nearest", x.nearest(shelves[i], 0), due[i]);
            Due.is("nearest 2", x.nearest(shelves[i], 2), -1);
            Due.is("nearest -1", x.nearest(shelves[i], -1), -1);
            Due.is("slips", x.slips(shelves[i], 0), due[i]);
            Due.is("slips of none", x.slips(shelves[i], 1), -1);
            Due.is("slips of none", x.slips(shelves[i], -1), -1);
            Due.is("likely", x.likely(shelves[i], 0, 0), Long.MIN_VALUE);
        }
        Due.is("likely of none", x.likely(5, 1, 0), Long.MIN_VALUE);
        Due.is("likely of none", x.likely(5, -1, 0), Long.MIN_VALUE);
        Due.is("likely", x.likely(5, 0, 0), 1);
    }

    private static void anySounds(Random random) {
        ThreshedSound x = Due.anyFloor(random);
        int[] sounds = new int[Due.between(random, 0, 8)];
        for (int k = 0; k < sounds.length; k++) {
            sounds[k] = random.nextInt(random.nextInt(4) == 0 ? 10 : 3);
        }
        Due.bytes(x, 0, sounds);
        StringBuilder heard = new StringBuilder();
        for (int k = 0; k < sounds.length && k < 6 && sounds[k] < 8; k++) {
            heard.append(sounds[k]);
        }
        String[] texts = new String[x.count(1)];
        for (int s = 0; s < texts.length; s++) {
            texts[s] = text(x, s);
        }
        asHeard(x, heard.toString(), texts);
        twos(x, texts);
    }

    private static void asHeard(ThreshedSound x, String heard, String[] texts) {
        int best = -2;
        int least = -2;
        BigInteger[] weights = new BigInteger[texts.length];
        BigInteger all = BigInteger.ZERO;
        int[] arms = new int[x.count(0)];
        for (int man = 0; man < arms.length; man++) {
            arms[man] = x.of(man, 4);
        }
        for (int s = 0; s < texts.length; s++) {
            boolean fits = texts[s].length() == heard.length();
            int bits = 0;
            weights[s] = fits ? BigInteger.ONE : BigInteger.ZERO;
            for (int k = 0; k < heard.length() && fits; k++) {
                boolean right = texts[s].charAt(k) == heard.charAt(k);
                bits |= right ? 0 : 1 << k;
                int arm = arms.length == 0 ? 0 : arms[k % arms.length];
                weights[s] = weights[s].multiply(BigInteger.valueOf(right ? arm * 7 : 12 - arm));
            }
            all = all.add(weights[s]);
            Due.is("slips", x.slips(0, s), fits ? bits : -2);
            if (fits && (best == -2 || Integer.bitCount(bits) < least)) {
                best = s;
                least = Integer.bitCount(bits);
            }
        }
        Due.is("nearest", x.nearest(0, 0), best);
        Due.is("nearest by", x.nearest(0, 1), least);
        for (int s = 0; s < texts.length; s++) {
            fraction(x, s, weights[s], all);
        }
    }

    private static void fraction(ThreshedSound x, int s, BigInteger one, BigInteger all) {
        if (x.count(0) == 0) {
            Due.is("likely, no men", x.likely(0, s, 1), Long.MIN_VALUE);
            return;
        }
        BigInteger common = one.gcd(all);
        boolean none = one.signum() == 0;
        Due.is("likely above", x.likely(0, s, 0), none ? 0 : one.divide(common).longValueExact());
        Due.is("likely below", x.likely(0, s, 1), none ? 1 : all.divide(common).longValueExact());
    }

    private static void twos(ThreshedSound x, String[] texts) {
        int closest = -2;
        int least = 99;
        for (int a = 0; a < texts.length; a++) {
            int begins = 0;
            for (int b = 0; b < texts.length; b++) {
                int apart = texts[a].length() == texts[b].length() ? 0 : -2;
                for (int k = 0; k < texts[a].length() && apart >= 0; k++) {
                    apart += texts[a].charAt(k) == texts[b].charAt(k) ? 0 : 1;
                }
                Due.is("apart", x.apart(10 * a + b), apart);
                begins |= a != b && texts[b].startsWith(texts[a]) ? 1 << b : 0;
                if (a < b && apart >= 0 && apart < least) {
                    least = apart;
                    closest = 10 * a + b;
                }
            }
            Due.is("begins", x.begins(a), begins);
        }
        Due.is("closest", x.closest(), closest);
    }

    private static String text(ThreshedSound x, int saying) {
        int length = x.of(saying, 8);
        StringBuilder text = new StringBuilder();
        for (int k = 0; k < length; k++) {
            text.append(x.of(10 * saying + k, 7));
        }
        return text.toString();
    }
}
