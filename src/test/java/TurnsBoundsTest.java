/** The bounds of men's turns and of drawn nights: a sentence of the document a test (promises 23 to 27). */
public final class TurnsBoundsTest {
    private static final int MIN = Integer.MIN_VALUE;
    private static final int MAX = Integer.MAX_VALUE;
    private static final int VOID = -2000000000;

    public static void main(String[] args) {
        meetIs0Or1();
        meetOfNoneAndOne();
        meetOfTwo();
        meetOfLateMen();
        meetOfFour();
        firstOf0To4();
        firstOfNoMen();
        firstOfOneMan();
        firstOfFourAtOnce();
        silentOf100Beats();
        silentAheadOfTheLateOnes();
        turnsOf1To4();
        turnsOfTwoUnlikeMen();
        turnsIs0Or1();
        turnsOfCornInReach();
        turnsByStrokesInAll();
        turnsWhenCornEnds();
        turnsWhenHisOwnCornEnds();
        turnsRestFirst();
        turnsTheLeastOfLikeOnes();
        turnsTakeFirstWhatTheOtherWould();
        turnsInThoughtAlone();
        drawnOf1To30Nights();
        drawnIsVoid();
        drawnOfSayingsThatAreThere();
        drawnRightBelowArm();
        drawnOtherTonesGoRound();
        drawnByIntsThatWrap();
        drawnByTheManOfItsBeat();
        drawnNearestOfLikeOnes();
        Due.end();
    }

    private static ThreshedSound men(int... lates) {
        ThreshedSound x = new ThreshedSound();
        for (int man = 0; man < lates.length; man++) {
            x.man(0);
            x.mend(man, 5, lates[man]);
        }
        return x;
    }

    private static void meetIs0Or1() {
        ThreshedSound x = men(1, 0);
        for (int what : new int[] {-1, 2, MIN, MAX}) {
            Due.is("meet " + what, x.meet(what), -1);
        }
        Due.is("meet 0", x.meet(0), 1);
        Due.is("meet 1", x.meet(1), 1);
    }

    private static void meetsAre(ThreshedSound x, int least, int many) {
        Due.is("the least two", x.meet(0), least);
        Due.is("twos", x.meet(1), many);
    }

    private static void meetOfNoneAndOne() {
        meetsAre(men(), -2, 0);
        meetsAre(men(0), -2, 0);
        meetsAre(men(9), -2, 0);
    }

    private static void meetOfTwo() {
        meetsAre(men(0, 0), -2, 0);
        meetsAre(men(1, 0), 1, 1);
        meetsAre(men(0, 1), 1, 1);
        meetsAre(men(1, 1), -2, 0);
        meetsAre(men(2, 0), -2, 0);
    }

    private static void meetOfLateMen() {
        meetsAre(men(9, 0), 1, 1);
        meetsAre(men(0, 9), 1, 1);
        meetsAre(men(9, 9), -2, 0);
        meetsAre(men(8, 9), 1, 1);
        meetsAre(men(0, 8), -2, 0);
    }

    private static void meetOfFour() {
        meetsAre(men(0, 0, 0, 0), -2, 0);
        meetsAre(men(9, 9, 9, 9), -2, 0);
        meetsAre(men(0, 0, 1, 0), 23, 1);
        meetsAre(men(0, 0, 9, 0), 23, 1);
        meetsAre(men(0, 2, 0, 0), 13, 1);
        meetsAre(men(0, 0, 2, 0), 2, 1);
        meetsAre(men(3, 0, 0, 0), 3, 1);
        meetsAre(men(3, 2, 0, 0), 1, 3);
        meetsAre(men(3, 2, 1, 0), 1, 6);
        meetsAre(men(1, 0, 1, 0), 1, 2);
        meetsAre(men(0, 0, 1), 2, 1);
        meetsAre(men(0, 0, 7), 2, 1);
        meetsAre(men(0, 1, 0), 12, 1);
    }

    private static void firstsAre(ThreshedSound x, int... due) {
        for (int n = 0; n < 5; n++) {
            Due.is("first(" + n + ")", x.first(n), due[n]);
        }
    }

    private static void firstOf0To4() {
        ThreshedSound x = men(0, 0, 0, 0);
        for (int n : new int[] {-1, 5, MIN, MAX}) {
            Due.is("first(" + n + ")", x.first(n), -1);
        }
        firstsAre(x, -2, 0, -2, -2, -2);
    }

    private static void firstOfNoMen() {
        firstsAre(men(), 0, -2, -2, -2, -2);
        Due.is("first(5)", men().first(5), -1);
    }

    private static void firstOfOneMan() {
        firstsAre(men(0), -2, 0, -2, -2, -2);
        firstsAre(men(1), 0, 1, -2, -2, -2);
        firstsAre(men(9), 0, 9, -2, -2, -2);
    }

    private static void firstOfFourAtOnce() {
        firstsAre(men(0, 3, 2, 9), 1, 0, -2, 4, 12);
        firstsAre(men(9, 0, 0, 0), 0, 1, 9, -2, -2);
        firstsAre(men(3, 2, 1, 0), 0, -2, -2, -2, 3);
        firstsAre(men(9, 8, 7, 6), 0, -2, -2, -2, 9);
        firstsAre(men(1, 0, 0), 0, 2, 1, -2, -2);
    }

    private static void silentOf100Beats() {
        Due.is("no men", men().silent(), 100);
        Due.is("one", men(0).silent(), 0);
        Due.is("two", men(0, 0).silent(), 0);
        Due.is("two on even beats", men(0, 1).silent(), 50);
        Due.is("two on odd beats", men(1, 0).silent(), 50);
        Due.is("three on 0, 3 .. 99", men(0, 2, 1).silent(), 66);
        Due.is("three on 1, 4 .. 97", men(1, 0, 2).silent(), 67);
        Due.is("three on 2, 5 .. 98", men(2, 1, 0).silent(), 67);
        Due.is("four on 0, 4 .. 96", men(0, 3, 2, 1).silent(), 75);
        Due.is("four on 3, 7 .. 99", men(3, 2, 1, 0).silent(), 75);
        Due.is("four by turns", men(0, 0, 0, 0).silent(), 0);
    }

    private static void silentAheadOfTheLateOnes() {
        for (int late = 0; late <= 9; late++) {
            Due.is("one, late by " + late, men(late).silent(), late);
        }
        Due.is("the last of four, late by 9: 0, 4, 8", men(0, 0, 0, 9).silent(), 25);
        Due.is("the first of four, late by 8: 0, 4", men(8, 0, 0, 0).silent(), 2);
        Due.is("all late by 9: 0 to 8", men(9, 9, 9, 9).silent(), 9);
    }

    /** Men on PLANK 0 and 1 with REACH 1: 0 and 1 are both's, 4 is the first one's, 2 and 5 the other's. */
    private static ThreshedSound two() {
        ThreshedSound x = new ThreshedSound();
        x.man(0);
        x.man(1);
        x.mend(0, 3, 1);
        x.mend(1, 3, 1);
        return x;
    }

    private static void turnsAre(ThreshedSound x, int ab, int n, int more, int plank) {
        Due.is("byTurns(" + ab + ", " + n + ", 0)", x.byTurns(ab, n, 0), more);
        Due.is("byTurns(" + ab + ", " + n + ", 1)", x.byTurns(ab, n, 1), plank);
    }

    private static void turnsOf1To4() {
        ThreshedSound x = two();
        for (int n : new int[] {0, 5, -1, MIN, MAX}) {
            turnsAre(x, 1, n, VOID, VOID);
        }
        x.mend(4, 1, 9);
        turnsAre(x, 1, 1, 1, 4);
        turnsAre(x, 1, 2, 1, 4);
        turnsAre(x, 1, 3, 2, 4);
        turnsAre(x, 1, 4, 2, 4);
    }

    private static void turnsOfTwoUnlikeMen() {
        ThreshedSound x = new ThreshedSound();
        turnsAre(x, 1, 1, VOID, VOID);
        x.man(0);
        turnsAre(x, 1, 1, VOID, VOID);
        turnsAre(x, 10, 1, VOID, VOID);
        x.man(0);
        turnsAre(x, 1, 1, 0, 16);
        turnsAre(x, 10, 1, 0, 16);
        for (int ab : new int[] {0, 11, 2, 20, 12, 21, -1, -10, 9, 19, 91, 100, 101, MIN, MAX}) {
            turnsAre(x, ab, 1, VOID, VOID);
        }
        x.man(0);
        x.man(0);
        turnsAre(x, 23, 1, 0, 16);
        turnsAre(x, 32, 4, 0, 16);
        for (int ab : new int[] {22, 33, 4, 14, 34, 40, 43, 44}) {
            turnsAre(x, ab, 1, VOID, VOID);
        }
    }

    private static void turnsIs0Or1() {
        ThreshedSound x = two();
        for (int what : new int[] {-1, 2, MIN, MAX}) {
            Due.is("byTurns what " + what, x.byTurns(1, 1, what), VOID);
        }
        turnsAre(x, 1, 1, 0, 16);
    }

    private static void turnsOfCornInReach() {
        ThreshedSound x = two();
        x.mend(15, 1, 9);
        x.mend(8, 1, 9);
        turnsAre(x, 1, 4, 0, 16);
        x.mend(0, 3, 2);
        turnsAre(x, 1, 1, 1, 8);
        turnsAre(x, 10, 2, -1, 16);
        x.mend(0, 3, 6);
        x.mend(8, 1, 0);
        turnsAre(x, 1, 1, 1, 15);
    }

    private static void turnsByStrokesInAll() {
        ThreshedSound x = two();
        x.mend(0, 1, 9);
        turnsAre(x, 1, 1, 1, 0);
        turnsAre(x, 1, 2, 0, 0);
        turnsAre(x, 1, 3, 1, 0);
        turnsAre(x, 1, 4, 0, 0);
        x.strike(16);
        turnsAre(x, 1, 1, 1, 0);
    }

    private static void turnsWhenCornEnds() {
        ThreshedSound x = two();
        x.mend(1, 1, 1);
        for (int n = 1; n <= 4; n++) {
            turnsAre(x, 1, n, 1, 1);
            turnsAre(x, 10, n, 1, 1);
        }
        x.mend(1, 1, 2);
        turnsAre(x, 1, 2, 0, 1);
        // with a turn more a rest is as good, as the other must take then
        turnsAre(x, 1, 3, 0, 16);
        turnsAre(x, 1, 4, 0, 16);
        x.mend(1, 1, 3);
        turnsAre(x, 1, 3, 1, 1);
        turnsAre(x, 1, 4, 1, 1);
    }

    private static void turnsWhenHisOwnCornEnds() {
        ThreshedSound x = two();
        x.mend(4, 1, 1);
        for (int n = 1; n <= 4; n++) {
            turnsAre(x, 1, n, 1, n < 3 ? 4 : 16);
        }
        turnsAre(x, 10, 1, 0, 16);
        turnsAre(x, 10, 2, -1, 16);
        turnsAre(x, 10, 4, -1, 16);
        x.mend(4, 1, 2);
        turnsAre(x, 1, 2, 1, 4);
        turnsAre(x, 1, 3, 2, 4);
        turnsAre(x, 10, 4, -2, 16);
        x.mend(2, 1, 1);
        turnsAre(x, 1, 2, 0, 4);
        turnsAre(x, 1, 3, 1, 4);
        turnsAre(x, 1, 4, 1, 4);
        turnsAre(x, 10, 3, 0, 16);
    }

    private static void turnsRestFirst() {
        ThreshedSound x = two();
        for (int n = 1; n <= 4; n++) {
            turnsAre(x, 1, n, 0, 16);
        }
        x.mend(5, 1, 9);
        turnsAre(x, 1, 1, 0, 16);
        turnsAre(x, 1, 2, -1, 16);
        turnsAre(x, 1, 3, -1, 16);
        turnsAre(x, 1, 4, -2, 16);
    }

    private static void turnsTheLeastOfLikeOnes() {
        ThreshedSound x = two();
        x.mend(0, 1, 5);
        x.mend(1, 1, 5);
        turnsAre(x, 1, 1, 1, 0);
        turnsAre(x, 1, 4, 0, 0);
        turnsAre(x, 10, 1, 1, 0);
        x.mend(0, 1, 0);
        turnsAre(x, 1, 1, 1, 1);
        x.mend(4, 1, 5);
        turnsAre(x, 1, 1, 1, 1);
        x.mend(1, 1, 0);
        turnsAre(x, 1, 1, 1, 4);
    }

    private static void turnsTakeFirstWhatTheOtherWould() {
        ThreshedSound x = new ThreshedSound();
        x.man(0);
        x.man(5);
        x.mend(0, 3, 1);
        x.mend(1, 3, 1);
        x.mend(0, 1, 1);
        x.mend(4, 1, 1);
        // 0 is the first one's alone, 4 is both's
        turnsAre(x, 1, 1, 1, 0);
        turnsAre(x, 1, 2, 1, 4);
        turnsAre(x, 1, 3, 2, 4);
        turnsAre(x, 1, 4, 2, 4);
        turnsAre(x, 10, 2, 0, 4);
        turnsAre(x, 10, 1, 1, 4);
    }

    private static void turnsInThoughtAlone() {
        ThreshedSound x = two();
        x.mend(0, 1, 4);
        turnsAre(x, 1, 4, 0, 0);
        turnsAre(x, 1, 4, 0, 0);
        Due.is("corn", x.of(0, 1), 4);
        Due.is("beats", x.led(0), 0);
        Due.is("changes", x.count(3), 3);
    }

    private static ThreshedSound saidBy(int arm, int... tones) {
        ThreshedSound x = new ThreshedSound();
        x.man(0);
        x.mend(0, 4, arm);
        Due.tell(x, tones);
        return x;
    }

    private static void drawnOf1To30Nights() {
        ThreshedSound x = saidBy(12, 3, 4, 5);
        for (int n : new int[] {0, 31, -1, MIN, MAX}) {
            Due.is("n " + n, x.drawn(1, n, 0, 0), VOID);
            Due.is("n " + n, x.drawn(1, n, 0, 1), VOID);
        }
        for (int n = 1; n <= 30; n++) {
            x.mend(0, 4, 12);
            Due.is("always right", x.drawn(7 * n, n, 0, 0), n);
            Due.is("always nearest", x.drawn(7 * n, n, 0, 1), n);
            x.mend(0, 4, 0);
            Due.is("never right", x.drawn(7 * n, n, 0, 0), 0);
            Due.is("the only one", x.drawn(7 * n, n, 0, 1), n);
        }
    }

    private static void drawnIsVoid() {
        ThreshedSound x = new ThreshedSound();
        Due.tell(x, 1);
        Due.is("no men", x.drawn(1, 1, 0, 0), VOID);
        Due.is("no men", x.drawn(1, 1, 0, 1), VOID);
        x.man(0);
        Due.is("a man", x.drawn(1, 1, 0, 0), 1);
        for (int what : new int[] {-1, 2, MIN, MAX}) {
            Due.is("what " + what, x.drawn(1, 1, 0, what), VOID);
        }
    }

    private static void drawnOfSayingsThatAreThere() {
        ThreshedSound x = new ThreshedSound();
        x.man(0);
        Due.is("none yet", x.drawn(1, 1, 0, 0), VOID);
        for (int saying = 0; saying < 8; saying++) {
            Due.tell(x, saying);
            Due.is("drawn", x.drawn(1, 1, saying, 1), 1);
            Due.is("the next", x.drawn(1, 1, saying + 1, 1), VOID);
        }
        for (int saying : new int[] {-1, MIN, MAX}) {
            Due.is("saying " + saying, x.drawn(1, 1, saying, 0), VOID);
        }
    }

    /** The SEED whose first z is as wanted. */
    private static int seedOf(int z) {
        int inverse = 1;
        for (int i = 0; i < 5; i++) {
            inverse *= 2 - 1103515245 * inverse;
        }
        return (z - 12345) * inverse;
    }

    private static void drawnRightBelowArm() {
        for (int arm = 0; arm <= 12; arm++) {
            ThreshedSound x = saidBy(arm, 6);
            for (int draw = 0; draw < 12; draw++) {
                int z = 12 * 77 + draw << 8 | 0x5a;
                Due.is("arm " + arm + ", draw " + draw, x.drawn(seedOf(z), 1, 0, 0), draw < arm ? 1 : 0);
            }
        }
    }

    private static void drawnOtherTonesGoRound() {
        for (int tone = 0; tone < 8; tone++) {
            for (int other = 0; other < 8; other++) {
                ThreshedSound x = saidBy(0, tone);
                Due.tell(x, other);
                for (int draw = 0; draw < 7; draw++) {
                    int z = 7 * 99 + draw << 16;
                    int heard = (tone + 1 + draw) % 8;
                    // nearest to the other one only if just that was heard
                    Due.is("heard " + heard, x.drawn(seedOf(z), 1, 0, 1), heard == other ? 0 : 1);
                }
            }
        }
    }

    private static void drawnByIntsThatWrap() {
        for (int z : new int[] {-1, MIN, MAX, 0, 0x80000100, 0xffff0000, 0x7fffff00}) {
            int draw = (int) ((z & 0xffffffffL) / 256 % 12);
            int more = (int) ((z & 0xffffffffL) / 65536 % 7);
            ThreshedSound x = saidBy(draw, 0);
            Due.tell(x, 1 + more);
            Due.is("not below " + draw, x.drawn(seedOf(z), 1, 0, 0), 0);
            Due.is("just one more", x.drawn(seedOf(z), 1, 0, 1), 0);
            x.mend(0, 4, draw + 1);
            Due.is("below", x.drawn(seedOf(z), 1, 0, 0), 1);
        }
        for (int seed : new int[] {MIN, MAX, -1, 0, 1}) {
            int z = seed * 1103515245 + 12345;
            int draw = (z >>> 8) % 12;
            ThreshedSound x = saidBy(draw, 0);
            Due.is("seed " + seed, x.drawn(seed, 1, 0, 0), 0);
            x.mend(0, 4, draw + 1);
            Due.is("seed " + seed, x.drawn(seed, 1, 0, 0), 1);
        }
    }

    private static void drawnByTheManOfItsBeat() {
        ThreshedSound x = saidBy(12, 1);
        x.man(0);
        x.mend(1, 4, 0);
        Due.tell(x, 1, 1);
        Due.is("each night from beat 0 on", x.drawn(5, 30, 0, 0), 30);
        Due.is("the other on beat 1", x.drawn(5, 30, 1, 0), 0);
        x.strike(16);
        Due.is("whatever beat it is in deed", x.drawn(5, 30, 0, 0), 30);
        x.mend(0, 4, 0);
        x.mend(1, 4, 12);
        Due.is("never", x.drawn(5, 30, 0, 0), 0);
    }

    private static void drawnNearestOfLikeOnes() {
        ThreshedSound x = saidBy(12, 1, 2);
        Due.tell(x, 1, 2);
        Due.tell(x, 1, 2, 3);
        Due.is("the least", x.drawn(9, 30, 0, 1), 30);
        Due.is("not the other, though all is right", x.drawn(9, 30, 1, 1), 0);
        Due.is("all is right", x.drawn(9, 30, 1, 0), 30);
        Due.is("of another length", x.drawn(9, 30, 2, 1), 30);
    }
}
