/** The bounds of sounds with slips and of sayings beside one another: a sentence a test (promises 17 to 22). */
public final class SoundsBoundsTest {
    private static final int MIN = Integer.MIN_VALUE;
    private static final int MAX = Integer.MAX_VALUE;
    private static final long NONE = Long.MIN_VALUE;

    public static void main(String[] args) {
        sixSoundsAtMost();
        soundsEndWithWhatIsNoTone();
        soundsOfARowOfBytes();
        nearestOfAsManyTones();
        nearestOfLikeOnesTheLeast();
        nearestByHowMany();
        nearestIs0Or1();
        likelyByArmsOfTwelve();
        likelyByTheManOfItsBeat();
        likelyInLowestTerms();
        likelyOfEightSayings();
        likelyOfAnotherLengthOrNone();
        likelyIsBad();
        slipsAreBits();
        slipsOfSayingsThatAreThere();
        apartOfTwo();
        apartOfUnlikeLengths();
        apartOfSayingsThatAreThere();
        closestOfNoneAndOne();
        closestOfLikeOnesTheLeast();
        closestOfOneLength();
        beginsWithAllOfIt();
        beginsNotWithItself();
        beginsOfSayingsThatAreThere();
        Due.end();
    }

    private static ThreshedSound oneMan(int arm) {
        ThreshedSound x = new ThreshedSound();
        x.man(0);
        x.mend(0, 4, arm);
        return x;
    }

    private static void sixSoundsAtMost() {
        ThreshedSound x = oneMan(12);
        Due.tell(x, 1, 2, 3, 4, 5);
        Due.tell(x, 1, 2, 3, 4, 5, 6);
        Due.bytes(x, 0, 1, 2, 3, 4, 5);
        Due.is("five", x.nearest(0, 0), 0);
        Due.bytes(x, 0, 1, 2, 3, 4, 5, 6);
        Due.is("six", x.nearest(0, 0), 1);
        Due.is("six", x.slips(0, 1), 0);
        Due.is("six", x.likely(0, 1, 0), 1);
        Due.bytes(x, 0, 1, 2, 3, 4, 5, 6, 7);
        Due.is("of seven, six", x.nearest(0, 0), 1);
        Due.is("of seven, six", x.nearest(0, 1), 0);
        Due.is("of seven, six", x.slips(0, 1), 0);
        Due.is("of seven, six", x.likely(0, 1, 0), 1);
        x.row(0, 0, 60);
        Due.is("of sixty, six", x.slips(0, 1), 63);
        Due.is("of sixty, six", x.slips(0, 0), -2);
    }

    private static void soundsEndWithWhatIsNoTone() {
        ThreshedSound x = oneMan(12);
        Due.tell(x, 1);
        Due.tell(x, 1, 7);
        for (int end : new int[] {8, 9, 16, 127, -1, -128, 255}) {
            Due.bytes(x, 0, 1, end, 1);
            Due.is("one ahead of " + end, x.nearest(0, 0), 0);
            Due.is("one ahead of " + end, x.slips(0, 0), 0);
            Due.bytes(x, 0, end, 1);
            Due.is("none ahead of " + end, x.nearest(0, 0), -2);
            Due.is("none ahead of " + end, x.nearest(0, 1), -2);
            Due.is("none ahead of " + end, x.slips(0, 0), -2);
            Due.is("none ahead of " + end, x.likely(0, 0, 0), 0);
            Due.is("none ahead of " + end, x.likely(0, 0, 1), 1);
        }
        Due.bytes(x, 0, 1, 7);
        Due.is("7 is a tone", x.nearest(0, 0), 1);
        Due.bytes(x, 0, 0);
        Due.is("0 is a tone", x.nearest(0, 1), 1);
        Due.bytes(x, 0);
        Due.is("no sounds", x.nearest(0, 0), -2);
        Due.is("no sounds", x.slips(0, 1), -2);
        Due.is("no sounds", x.likely(0, 0, 0), 0);
    }

    private static void soundsOfARowOfBytes() {
        ThreshedSound x = oneMan(12);
        Due.tell(x, 0);
        x.body(0);
        x.keep(5, 0);
        for (int shelf = 1; shelf < 5; shelf++) {
            x.row(shelf, shelf, 1);
        }
        int[] shelves = {-1, 6, MIN, MAX, 0, 1, 2, 3, 4, 5};
        int[] due = {-1, -1, -1, -1, -11, -12, -12, -12, -12, -12};
        for (int i = 0; i < shelves.length; i++) {
            Due.is("nearest", x.nearest(shelves[i], 0), due[i]);
            Due.is("nearest by", x.nearest(shelves[i], 1), due[i]);
            Due.is("slips", x.slips(shelves[i], 0), due[i]);
            Due.is("likely", x.likely(shelves[i], 0, 0), NONE);
            Due.is("likely, below", x.likely(shelves[i], 0, 1), NONE);
        }
        for (int shelf = 0; shelf < 6; shelf++) {
            x.row(shelf, 0, 1);
            Due.is("nearest", x.nearest(shelf, 0), 0);
            Due.is("slips", x.slips(shelf, 0), 0);
            Due.is("likely", x.likely(shelf, 0, 0), 1);
        }
    }

    private static void nearestOfAsManyTones() {
        ThreshedSound x = new ThreshedSound();
        Due.bytes(x, 0, 1, 2);
        Due.is("no sayings", x.nearest(0, 0), -2);
        Due.is("no sayings", x.nearest(0, 1), -2);
        Due.tell(x, 1);
        Due.tell(x, 1, 2, 3);
        Due.is("shorter and longer ones", x.nearest(0, 0), -2);
        Due.is("shorter and longer ones", x.nearest(0, 1), -2);
        Due.tell(x, 7, 7);
        Due.is("as many", x.nearest(0, 0), 2);
        Due.is("all other", x.nearest(0, 1), 2);
    }

    private static void nearestOfLikeOnesTheLeast() {
        ThreshedSound x = new ThreshedSound();
        Due.tell(x, 5, 5);
        Due.tell(x, 1, 5);
        Due.tell(x, 5, 2);
        for (int saying = 3; saying < 7; saying++) {
            Due.tell(x, 1, 6);
        }
        Due.bytes(x, 0, 1, 2);
        Due.is("the least of those by one", x.nearest(0, 0), 1);
        Due.is("by one", x.nearest(0, 1), 1);
        Due.tell(x, 1, 2);
        Due.is("the last, by none", x.nearest(0, 0), 7);
        Due.is("by none", x.nearest(0, 1), 0);
    }

    private static void nearestByHowMany() {
        ThreshedSound x = new ThreshedSound();
        Due.tell(x, 0, 0, 0, 0, 0, 0);
        for (int other = 0; other <= 6; other++) {
            int[] sounds = new int[6];
            java.util.Arrays.fill(sounds, 0, other, 7);
            Due.bytes(x, 0, sounds);
            Due.is("which", x.nearest(0, 0), 0);
            Due.is("by " + other, x.nearest(0, 1), other);
            Due.is("slips", x.slips(0, 0), (1 << other) - 1);
        }
    }

    private static void nearestIs0Or1() {
        ThreshedSound x = new ThreshedSound();
        Due.tell(x, 0);
        Due.bytes(x, 0, 0);
        for (int what : new int[] {-1, 2, MIN, MAX}) {
            Due.is("nearest " + what, x.nearest(0, what), -1);
            Due.is("ahead of -11, " + what, x.nearest(1, what), -1);
        }
    }

    private static void likelyByArmsOfTwelve() {
        // against one that is other: 7 times the arm, and what the arm lacks of twelve
        for (int arm = 0; arm <= 12; arm++) {
            ThreshedSound x = oneMan(arm);
            Due.tell(x, 3);
            Due.tell(x, 4);
            Due.bytes(x, 0, 3);
            long right = 7 * arm;
            long other = 12 - arm;
            fractionIs(x, 0, right, right + other);
            fractionIs(x, 1, other, right + other);
            Due.bytes(x, 0, 5);
            fractionIs(x, 0, arm == 12 ? 0 : 1, arm == 12 ? 1 : 2);
        }
    }

    private static void fractionIs(ThreshedSound x, int saying, long above, long below) {
        long common = above == 0 ? below : 1;
        for (long d = 2; d <= above; d++) {
            common = above % d == 0 && below % d == 0 ? d : common;
        }
        Due.is("above of " + saying, x.likely(0, saying, 0), above / common);
        Due.is("below of " + saying, x.likely(0, saying, 1), below / common);
    }

    private static void likelyByTheManOfItsBeat() {
        ThreshedSound x = oneMan(12);
        x.man(0);
        x.mend(1, 4, 6);
        Due.tell(x, 1, 1, 1);
        Due.tell(x, 1, 2, 1);
        Due.tell(x, 2, 1, 1);
        Due.tell(x, 1, 1, 2);
        Due.bytes(x, 0, 1, 1, 1);
        fractionIs(x, 0, 7, 8);
        fractionIs(x, 1, 1, 8);
        fractionIs(x, 2, 0, 1);
        fractionIs(x, 3, 0, 1);
        x.strike(16);
        fractionIs(x, 0, 7, 8);
    }

    private static void likelyInLowestTerms() {
        ThreshedSound x = oneMan(6);
        Due.tell(x, 1);
        Due.bytes(x, 0, 1);
        fractionIs(x, 0, 1, 1);
        Due.tell(x, 1);
        fractionIs(x, 0, 1, 2);
        Due.tell(x, 2);
        fractionIs(x, 0, 7, 15);
        fractionIs(x, 2, 1, 15);
        Due.bytes(x, 0, 5);
        fractionIs(x, 0, 1, 3);
    }

    /** Six tones by an arm of 11: 77 to the sixth, and more, below the line. */
    private static void likelyOfEightSayings() {
        ThreshedSound x = oneMan(11);
        Due.tell(x, 0, 0, 0, 0, 0, 0);
        long all = 77L * 77 * 77 * 77 * 77 * 77;
        long other = 1;
        int[] tones = new int[6];
        for (int k = 0; k < 6; k++) {
            tones[k] = 1;
            Due.tell(x, tones);
            long one = 1;
            for (int i = k + 1; i < 6; i++) {
                one *= 77;
            }
            all += one;
        }
        Due.tell(x, 0, 0, 0, 0, 0, 0);
        all += 77L * 77 * 77 * 77 * 77 * 77;
        Due.bytes(x, 0, 0, 0, 0, 0, 0, 0);
        Due.is("above", x.likely(0, 0, 0), 77L * 77 * 77 * 77 * 77 * 77);
        Due.is("below", x.likely(0, 0, 1), all);
        Due.is("all other, above", x.likely(0, 6, 0), other);
        Due.is("all other, below", x.likely(0, 6, 1), all);
        x.mend(0, 4, 12);
        Due.is("the two alone, above", x.likely(0, 7, 0), 1);
        Due.is("the two alone, below", x.likely(0, 7, 1), 2);
    }

    private static void likelyOfAnotherLengthOrNone() {
        ThreshedSound x = oneMan(12);
        Due.tell(x, 1, 2);
        Due.tell(x, 1, 2, 3);
        Due.tell(x, 1, 3);
        Due.bytes(x, 0, 1, 2);
        fractionIs(x, 0, 1, 1);
        fractionIs(x, 1, 0, 1);
        fractionIs(x, 2, 0, 1);
        Due.bytes(x, 0, 1, 4);
        fractionIs(x, 0, 0, 1);
        x.mend(0, 4, 0);
        fractionIs(x, 0, 0, 1);
        Due.bytes(x, 0, 2, 4);
        fractionIs(x, 0, 1, 2);
    }

    private static void likelyIsBad() {
        ThreshedSound x = new ThreshedSound();
        Due.tell(x, 1);
        Due.bytes(x, 0, 1);
        Due.is("no men", x.likely(0, 0, 0), NONE);
        Due.is("no men", x.likely(0, 0, 1), NONE);
        Due.tell(x, 1, 2);
        Due.is("no men, another length", x.likely(0, 1, 0), NONE);
        x.man(0);
        Due.is("a man", x.likely(0, 0, 0), 1);
        for (int other : new int[] {-1, 2, MIN, MAX}) {
            Due.is("part " + other, x.likely(0, 0, other), NONE);
            Due.is("saying " + other, x.likely(0, other, 0), NONE);
        }
    }

    private static void slipsAreBits() {
        for (int bits = 0; bits < 64; bits++) {
            ThreshedSound x = new ThreshedSound();
            Due.tell(x, 0, 1, 2, 3, 4, 5);
            int[] sounds = new int[6];
            for (int k = 0; k < 6; k++) {
                sounds[k] = (bits >> k & 1) == 1 ? 7 : k;
            }
            Due.bytes(x, bits % 5, sounds);
            Due.is("slips", x.slips(bits % 5, 0), bits);
        }
    }

    private static void slipsOfSayingsThatAreThere() {
        ThreshedSound x = new ThreshedSound();
        Due.bytes(x, 0, 3);
        Due.is("none yet", x.slips(0, 0), -1);
        for (int saying = 0; saying < 8; saying++) {
            Due.tell(x, saying);
            Due.is("slips", x.slips(0, saying), saying == 3 ? 0 : 1);
            Due.is("the next", x.slips(0, saying + 1), -1);
        }
        for (int saying : new int[] {-1, MIN, MAX}) {
            Due.is("slips", x.slips(0, saying), -1);
            Due.is("ahead of -11", x.slips(1, saying), -1);
        }
        Due.bytes(x, 0, 3, 3);
        Due.is("another length", x.slips(0, 3), -2);
        Due.bytes(x, 0);
        Due.is("none", x.slips(0, 3), -2);
    }

    private static void apartOfTwo() {
        ThreshedSound x = new ThreshedSound();
        Due.tell(x, 0, 0, 0, 0, 0, 0);
        int[] tones = new int[6];
        for (int k = 0; k < 6; k++) {
            tones[k] = 1;
            Due.tell(x, tones);
            Due.is("apart", x.apart(k + 1), k + 1);
            Due.is("apart, the other first", x.apart(10 * (k + 1)), k + 1);
        }
        Due.is("of itself", x.apart(0), 0);
        Due.is("of itself", x.apart(66), 0);
        Due.tell(x, 1, 1, 1, 1, 1, 1);
        Due.is("the last two, alike", x.apart(67), 0);
        Due.is("the last and the first", x.apart(70), 6);
    }

    private static void apartOfUnlikeLengths() {
        ThreshedSound x = new ThreshedSound();
        Due.tell(x, 1, 2);
        Due.tell(x, 1);
        Due.tell(x, 1, 2, 3);
        Due.is("shorter", x.apart(1), -2);
        Due.is("longer", x.apart(2), -2);
        Due.is("the other first", x.apart(10), -2);
        Due.is("the other first", x.apart(20), -2);
    }

    private static void apartOfSayingsThatAreThere() {
        ThreshedSound x = new ThreshedSound();
        Due.is("none yet", x.apart(0), -1);
        for (int saying = 0; saying < 8; saying++) {
            Due.tell(x, 0);
            Due.is("itself", x.apart(11 * saying), 0);
            Due.is("the next", x.apart(10 * saying + saying + 1), -1);
            Due.is("the next first", x.apart(10 * (saying + 1) + saying), -1);
        }
        for (int ab : new int[] {-1, -10, -11, 8, 9, 78, 79, 80, 87, 100, 107, MIN, MAX}) {
            Due.is("apart(" + ab + ")", x.apart(ab), -1);
        }
    }

    private static void closestOfNoneAndOne() {
        ThreshedSound x = new ThreshedSound();
        Due.is("none", x.closest(), -2);
        Due.tell(x, 1);
        Due.is("one", x.closest(), -2);
        Due.tell(x, 2);
        Due.is("two", x.closest(), 1);
    }

    private static void closestOfLikeOnesTheLeast() {
        ThreshedSound x = new ThreshedSound();
        for (int tone = 0; tone < 7; tone++) {
            Due.tell(x, tone, tone);
        }
        Due.is("all by two", x.closest(), 1);
        Due.tell(x, 5, 3);
        Due.is("3 and 7 by one, 5 and 7 by one", x.closest(), 37);
        x.mend(71, 7, 5);
        Due.is("5 and 7 by none", x.closest(), 57);
        x.mend(61, 7, 5);
        Due.is("still", x.closest(), 57);
        x.mend(10, 7, 0);
        x.mend(11, 7, 0);
        Due.is("0 and 1 by none", x.closest(), 1);
    }

    private static void closestOfOneLength() {
        ThreshedSound x = new ThreshedSound();
        for (int n = 1; n <= 6; n++) {
            Due.tell(x, new int[n]);
        }
        Due.is("six lengths", x.closest(), -2);
        Due.tell(x, 7, 7, 7, 7, 7, 7);
        Due.is("by six", x.closest(), 56);
        Due.tell(x, 7, 7, 7, 7, 7);
        Due.is("by five", x.closest(), 47);
    }

    private static void beginsWithAllOfIt() {
        ThreshedSound x = new ThreshedSound();
        Due.tell(x, 1, 2, 3);
        Due.tell(x, 1, 2);
        Due.tell(x, 1);
        Due.tell(x, 1, 2, 4);
        Due.tell(x, 2, 3);
        Due.tell(x, 1, 2, 3, 4, 5, 6);
        Due.tell(x, 1, 3);
        Due.tell(x, 1, 2, 3, 4, 5);
        Due.is("1, 2, 3", x.begins(0), 1 << 5 | 1 << 7);
        Due.is("1, 2", x.begins(1), 1 | 1 << 3 | 1 << 5 | 1 << 7);
        Due.is("1", x.begins(2), 1 | 1 << 1 | 1 << 3 | 1 << 5 | 1 << 6 | 1 << 7);
        Due.is("1, 2, 4", x.begins(3), 0);
        Due.is("2, 3: not within", x.begins(4), 0);
        Due.is("six tones", x.begins(5), 0);
        Due.is("five of six", x.begins(7), 1 << 5);
    }

    private static void beginsNotWithItself() {
        ThreshedSound x = new ThreshedSound();
        Due.tell(x, 1, 2);
        Due.is("alone", x.begins(0), 0);
        Due.tell(x, 1, 2);
        Due.is("one like it", x.begins(0), 2);
        Due.is("the other", x.begins(1), 1);
        for (int saying = 2; saying < 8; saying++) {
            Due.tell(x, 1, 2);
        }
        for (int saying = 0; saying < 8; saying++) {
            Due.is("all but itself", x.begins(saying), 0xff & ~(1 << saying));
        }
    }

    private static void beginsOfSayingsThatAreThere() {
        ThreshedSound x = new ThreshedSound();
        Due.is("none yet", x.begins(0), -1);
        for (int saying = 0; saying < 8; saying++) {
            Due.tell(x, saying);
            Due.is("begins", x.begins(saying), 0);
            Due.is("the next", x.begins(saying + 1), -1);
        }
        for (int saying : new int[] {-1, MIN, MAX}) {
            Due.is("begins", x.begins(saying), -1);
        }
    }
}
