/** The bounds of saying, rows, threshing all and tuning: a sentence of the document a test (promises 12 to 16). */
public final class SpeechBoundsTest {
    private static final int MIN = Integer.MIN_VALUE;
    private static final int MAX = Integer.MAX_VALUE;

    public static void main(String[] args) {
        theKthPlank();
        sayingsThatAreThere();
        theLeastPlankOfThatTone();
        theLeastThatHeCanReach();
        theLeastByWhichItIsHeard();
        theManOfThatBeat();
        fromBeat0On();
        cornAsStrokesLeaveIt();
        cornIsNeverBelowZero();
        heardByToneAndCorn();
        heardByBeatAndTone();
        whatCannotBeSaidHasNoPlanks();
        noMenSayNothing();
        canTellsEachOfEight();
        rowsOf0To9();
        rowsOfNoMen();
        rowsOfUnlikeTones();
        rowsHeardOrNot();
        rowsOfMenInTurn();
        threshNothing();
        threshOne();
        threshByMenInTurn();
        threshAll();
        threshWithRests();
        nobodysCorn();
        threshFromBeat0On();
        tuneIs0Or1();
        tuneNothing();
        tuneTheLast();
        tuneAsItIs();
        tuneTheLeastOfLikeOnes();
        tuneEightSayings();
        inThoughtAlone();
        Due.end();
    }

    /** A man on PLANK 0 who reaches all. */
    private static ThreshedSound oneMan() {
        ThreshedSound x = new ThreshedSound();
        x.man(0);
        x.mend(0, 3, 6);
        return x;
    }

    private static void planksAre(ThreshedSound x, int saying, int... planks) {
        for (int k = 0; k < planks.length; k++) {
            Due.is("say(" + saying + ", " + k + ")", x.say(saying, k), planks[k]);
        }
    }

    private static void theKthPlank() {
        ThreshedSound x = oneMan();
        for (int plank = 0; plank < 8; plank++) {
            x.mend(plank, 0, plank);
        }
        Due.tell(x, 7, 6, 5, 4, 3, 2);
        Due.tell(x, 7);
        planksAre(x, 0, 7, 6, 5, 4, 3, 2);
        Due.is("behind the sixth", x.say(0, 6), -2);
        Due.is("the one", x.say(1, 0), 7);
        Due.is("behind the one", x.say(1, 1), -2);
        Due.is("far behind", x.say(1, MAX), -2);
        Due.is("k -1", x.say(0, -1), -1);
        Due.is("k MIN", x.say(0, MIN), -1);
    }

    private static void sayingsThatAreThere() {
        ThreshedSound x = oneMan();
        Due.is("none yet", x.say(0, 0), -1);
        for (int saying = 0; saying < 8; saying++) {
            Due.tell(x, 0);
            Due.is("say", x.say(saying, 0), 0);
            Due.is("the next", x.say(saying + 1, 0), -1);
        }
        for (int saying : new int[] {-1, 8, MIN, MAX}) {
            Due.is("say " + saying, x.say(saying, 0), -1);
        }
        Due.is("no saying, ahead of NOT", x.say(8, 6), -1);
    }

    private static void theLeastPlankOfThatTone() {
        ThreshedSound x = oneMan();
        Due.tell(x, 5);
        Due.is("none of that tone", x.say(0, 0), -2);
        x.mend(15, 0, 5);
        Due.is("the last plank", x.say(0, 0), 15);
        x.mend(14, 0, 5);
        Due.is("a lesser", x.say(0, 0), 14);
        x.mend(0, 0, 5);
        Due.is("the first plank", x.say(0, 0), 0);
        x.mend(0, 0, 4);
        Due.is("of another tone", x.say(0, 0), 14);
    }

    private static void theLeastThatHeCanReach() {
        ThreshedSound x = oneMan();
        Due.tell(x, 0);
        x.mend(0, 2, 15);
        int[] least = {15, 11, 7, 3, 2, 1, 0};
        for (int far = 0; far <= 6; far++) {
            x.mend(0, 3, far);
            Due.is("reach " + far, x.say(0, 0), least[far]);
        }
    }

    private static void theLeastByWhichItIsHeard() {
        ThreshedSound x = oneMan();
        Due.tell(x, 0);
        Due.is("law", Due.lay(x, "3-c"), 1);
        for (int plank = 0; plank < 16; plank++) {
            Due.is("corn 0", x.say(0, 0), plank);
            x.mend(plank, 1, 2);
            Due.is("corn 2", x.say(0, 0), plank);
            x.mend(plank, 1, 3);
            Due.is("corn 3", x.say(0, 0), plank == 15 ? -2 : plank + 1);
        }
        x.mend(7, 1, 2);
        Due.is("heard again", x.say(0, 0), 7);
    }

    private static void theManOfThatBeat() {
        ThreshedSound x = oneMan();
        x.mend(0, 3, 0);
        x.man(15);
        x.mend(1, 3, 0);
        Due.tell(x, 0, 0, 0, 0, 0, 0);
        planksAre(x, 0, 0, 15, 0, 15, 0, 15, -2);
        x.man(5);
        x.mend(2, 3, 0);
        planksAre(x, 0, 0, 15, 5, 0, 15, 5, -2);
        x.man(9);
        x.mend(3, 3, 0);
        planksAre(x, 0, 0, 15, 5, 9, 0, 15, -2);
        x.mend(9, 0, 1);
        planksAre(x, 0, -2, -2, -2, -2, -2, -2, -2);
    }

    private static void fromBeat0On() {
        ThreshedSound x = oneMan();
        for (int plank = 0; plank < 8; plank++) {
            x.mend(plank, 0, plank);
        }
        for (int plank = 8; plank < 16; plank++) {
            x.mend(plank, 0, 7);
        }
        Due.is("law", Due.lay(x, "t=b"), 1);
        Due.tell(x, 0, 1, 2, 3, 0, 1);
        Due.tell(x, 0, 1, 2, 3, 4);
        Due.tell(x, 1);
        Due.tell(x, 0);
        for (int beat = 0; beat < 5; beat++) {
            Due.is("whatever beat it is in deed", x.can(), 1 | 8);
            planksAre(x, 0, 0, 1, 2, 3, 0, 1, -2);
            x.strike(16);
        }
    }

    private static void cornAsStrokesLeaveIt() {
        ThreshedSound x = oneMan();
        for (int plank = 1; plank < 16; plank++) {
            x.mend(plank, 0, 1);
        }
        Due.tell(x, 0, 0, 0, 0, 0);
        Due.tell(x, 0, 0, 0, 0, 0, 0);
        Due.is("law", Due.lay(x, "c"), 1);
        x.mend(0, 1, 5);
        Due.is("five by corn of five", x.can(), 1);
        x.mend(0, 1, 6);
        Due.is("six by corn of six", x.can(), 3);
        planksAre(x, 1, 0, 0, 0, 0, 0, 0, -2);
        x.mend(1, 0, 0);
        x.mend(1, 1, 2);
        x.mend(0, 1, 4);
        planksAre(x, 1, 0, 0, 0, 0, 1, 1, -2);
        x.mend(1, 1, 1);
        Due.is("one less", x.can(), 1);
    }

    private static void cornIsNeverBelowZero() {
        ThreshedSound x = oneMan();
        Due.tell(x, 0, 0, 0, 0, 0, 0);
        Due.is("law", Due.lay(x, "c=0"), 1);
        planksAre(x, 0, 0, 0, 0, 0, 0, 0, -2);
        Due.is("law", Due.lay(x, "c=2-b"), 1);
        x.mend(0, 1, 2);
        for (int plank = 1; plank < 16; plank++) {
            x.mend(plank, 0, 1);
        }
        Due.tell(x, 0, 0, 0);
        Due.tell(x, 0, 0, 0, 0);
        Due.is("corn 2, 1, 0 and no -1", x.can(), 2);
    }

    /** On one floor, one beside the other: the last of one kind beside the first of the next. */
    private static void heardByToneAndCorn() {
        ThreshedSound x = oneMan();
        for (int plank = 0; plank < 8; plank++) {
            x.mend(plank, 0, plank);
            Due.tell(x, plank);
        }
        for (int plank = 8; plank < 16; plank++) {
            x.mend(plank, 0, 7);
        }
        Due.is("law", Due.lay(x, "c"), 1);
        for (int corn = 1; corn <= 9; corn++) {
            for (int plank = 0; plank < 16; plank++) {
                x.mend(plank, 1, plank % 2 == 0 && plank < 8 ? corn : 0);
            }
            Due.is("even tones by corn " + corn, x.can(), 0x55);
            for (int plank = 0; plank < 16; plank++) {
                x.mend(plank, 1, plank % 2 == 1 ? 10 - corn : 0);
            }
            Due.is("odd tones by corn " + (10 - corn), x.can(), 0xaa);
        }
    }

    private static void heardByBeatAndTone() {
        ThreshedSound x = oneMan();
        for (int plank = 0; plank < 16; plank++) {
            x.mend(plank, 0, Math.min(7, plank));
            x.mend(plank, 1, 9);
        }
        int[] sevens = {7, 7, 7, 7, 7, 7};
        Due.tell(x, sevens);
        Due.tell(x, 0, 1, 2, 3, 4, 5);
        Due.is("all heard, without a text", x.can(), 3);
        Due.is("law", Due.lay(x, "b=t"), 1);
        Due.is("tone by beat", x.can(), 0);
        x.mend(14, 7, 0);
        x.mend(15, 7, 1);
        Due.is("tone by beat, round at four", x.can(), 2);
        Due.is("law", Due.lay(x, "t=7&c=9|b"), 1);
        Due.is("corn 9 on beat 0, less behind it, 8 on beat 4", x.say(0, 4), 8);
        Due.is("beat 5", x.say(0, 5), 7);
    }

    private static void whatCannotBeSaidHasNoPlanks() {
        ThreshedSound x = oneMan();
        Due.tell(x, 0, 0, 0, 0, 0, 1);
        planksAre(x, 0, -2, -2, -2, -2, -2, -2, -2);
        Due.is("k -1", x.say(0, -1), -1);
        x.mend(5, 7, 0);
        planksAre(x, 0, 0, 0, 0, 0, 0, 0, -2);
    }

    private static void noMenSayNothing() {
        ThreshedSound x = new ThreshedSound();
        Due.tell(x, 0);
        Due.is("say", x.say(0, 0), -2);
        Due.is("can", x.can(), 0);
        x.man(0);
        Due.is("say", x.say(0, 0), 0);
        Due.is("can", x.can(), 1);
    }

    private static void canTellsEachOfEight() {
        ThreshedSound x = oneMan();
        Due.is("none", x.can(), 0);
        for (int saying = 0; saying < 8; saying++) {
            Due.tell(x, saying % 2);
        }
        Due.is("each other one", x.can(), 0x55);
        x.mend(0, 0, 1);
        Due.is("all eight", x.can(), 0xff);
        for (int plank = 1; plank < 16; plank++) {
            x.mend(plank, 0, 1);
        }
        Due.is("the others", x.can(), 0xaa);
    }

    private static void rowsOf0To9() {
        ThreshedSound x = oneMan();
        for (int plank = 0; plank < 16; plank++) {
            x.mend(plank, 0, plank / 2);
        }
        for (int n : new int[] {-1, 10, MIN, MAX}) {
            Due.is("rows(" + n + ")", x.rows(n), Long.MIN_VALUE);
        }
        long rows = 1;
        for (int n = 0; n <= 9; n++) {
            Due.is("rows(" + n + ")", x.rows(n), rows);
            rows *= 8;
        }
    }

    private static void rowsOfNoMen() {
        ThreshedSound x = new ThreshedSound();
        Due.is("n 0", x.rows(0), 1);
        for (int n = 1; n <= 9; n++) {
            Due.is("n " + n, x.rows(n), 0);
        }
        Due.is("n 10", x.rows(10), Long.MIN_VALUE);
        Due.is("n -1", x.rows(-1), Long.MIN_VALUE);
    }

    private static void rowsOfUnlikeTones() {
        ThreshedSound x = oneMan();
        for (int n = 0; n <= 9; n++) {
            Due.is("all of one tone", x.rows(n), 1);
        }
        x.mend(15, 0, 7);
        Due.is("two tones", x.rows(9), 512);
        x.mend(14, 0, 7);
        Due.is("still two", x.rows(9), 512);
        x.mend(0, 3, 5);
        Due.is("14 alone", x.rows(1), 2);
        x.mend(0, 3, 4);
        Due.is("too far", x.rows(1), 1);
        x.mend(0, 3, 0);
        Due.is("his own", x.rows(9), 1);
    }

    private static void rowsHeardOrNot() {
        ThreshedSound x = oneMan();
        x.mend(1, 0, 1);
        x.mend(0, 6, 20);
        Due.is("far away", x.rows(2), 4);
        Due.is("law", Due.lay(x, "0"), 1);
        Due.is("never heard", x.rows(2), 4);
        Due.is("none can be said", x.can(), 0);
    }

    private static void rowsOfMenInTurn() {
        ThreshedSound x = oneMan();
        for (int plank = 0; plank < 16; plank++) {
            x.mend(plank, 0, plank % 8);
        }
        x.man(0);
        x.mend(0, 3, 0);
        x.mend(1, 3, 1);
        long[] due = {1, 1, 3, 3, 9, 9, 27, 27, 81, 81};
        for (int n = 0; n <= 9; n++) {
            Due.is("rows(" + n + ")", x.rows(n), due[n]);
        }
        x.strike(16);
        Due.is("from beat 0 on", x.rows(1), 1);
    }

    private static void threshNothing() {
        ThreshedSound x = new ThreshedSound();
        Due.is("no men, no corn", x.thresh(), 0);
        x.man(0);
        Due.is("a man, no corn", x.thresh(), 0);
    }

    private static void threshOne() {
        ThreshedSound x = new ThreshedSound();
        x.mend(0, 1, 1);
        Due.is("no men", x.thresh(), -2);
        x.man(0);
        Due.is("one", x.thresh(), 1);
        x.mend(0, 1, 2);
        Due.is("two", x.thresh(), 2);
        x.mend(0, 1, 9);
        Due.is("nine", x.thresh(), 9);
    }

    private static void threshByMenInTurn() {
        ThreshedSound x = new ThreshedSound();
        for (int man = 0; man < 4; man++) {
            x.man(man);
            x.mend(man, 3, 0);
        }
        for (int man = 0; man < 4; man++) {
            x.mend(man, 1, 1);
            Due.is("one, by man " + man, x.thresh(), man + 1);
            x.mend(man, 1, 2);
            Due.is("two, by man " + man, x.thresh(), man + 5);
            x.mend(man, 1, 9);
            Due.is("nine, by man " + man, x.thresh(), man + 33);
            x.mend(man, 1, 0);
        }
        x.mend(3, 1, 1);
        x.mend(0, 1, 2);
        Due.is("the last once, the first twice", x.thresh(), 5);
    }

    private static void threshAll() {
        ThreshedSound x = oneMan();
        for (int plank = 0; plank < 16; plank++) {
            x.mend(plank, 1, 9);
        }
        Due.is("144 by one", x.thresh(), 144);
        for (int man = 1; man < 4; man++) {
            x.man(0);
            x.mend(man, 3, 6);
            Due.is("144 by more", x.thresh(), 144);
        }
        for (int man = 1; man < 4; man++) {
            x.mend(man, 2, 15);
            x.mend(man, 3, 0);
        }
        Due.is("135 by the first of four", x.thresh(), 4 * 134 + 1);
        x.mend(0, 3, 0);
        x.mend(3, 3, 6);
        Due.is("the last of four takes what the three can't", x.thresh(), 4 * 126);
    }

    private static void threshWithRests() {
        ThreshedSound x = oneMan();
        x.man(15);
        x.mend(1, 3, 0);
        x.mend(0, 1, 3);
        Due.is("the other rests", x.thresh(), 5);
        x.mend(15, 1, 2);
        Due.is("the other has enough", x.thresh(), 5);
        x.mend(15, 1, 3);
        Due.is("the other takes three", x.thresh(), 6);
        x.mend(15, 1, 4);
        Due.is("one of four is left to the first", x.thresh(), 7);
    }

    private static void nobodysCorn() {
        ThreshedSound x = new ThreshedSound();
        x.man(0);
        x.mend(10, 1, 1);
        for (int far = 0; far <= 6; far++) {
            x.mend(0, 3, far);
            Due.is("reach " + far, x.thresh(), far < 4 ? -2 : 1);
        }
        x.mend(0, 3, 3);
        x.mend(0, 1, 1);
        Due.is("some of it is nobody's", x.thresh(), -2);
        x.man(10);
        Due.is("then another's", x.thresh(), 2);
    }

    private static void threshFromBeat0On() {
        ThreshedSound x = new ThreshedSound();
        x.man(0);
        x.man(15);
        x.mend(15, 1, 1);
        for (int beat = 0; beat < 4; beat++) {
            Due.is("the second man", x.thresh(), 2);
            x.strike(16);
        }
    }

    private static void tuneIs0Or1() {
        ThreshedSound x = oneMan();
        for (int what : new int[] {-1, 2, MIN, MAX}) {
            Due.is("tune " + what, x.tune(what), -1);
        }
        Due.is("tune 0", x.tune(0), 0);
        Due.is("tune 1", x.tune(1), 0);
    }

    private static void tuneNothing() {
        ThreshedSound x = new ThreshedSound();
        Due.is("no sayings", x.tune(0), 0);
        Due.is("no sayings", x.tune(1), 0);
        Due.tell(x, 7);
        Due.is("no men", x.tune(0), 0);
        Due.is("no men", x.tune(1), 0);
        x.man(0);
        Due.is("law", Due.lay(x, "0"), 1);
        Due.is("never heard", x.tune(0), 0);
        Due.is("never heard", x.tune(1), 0);
    }

    private static void tuneTheLast() {
        ThreshedSound x = oneMan();
        x.mend(0, 2, 15);
        x.mend(0, 3, 0);
        Due.tell(x, 7);
        Due.is("plank 15, tone 7", x.tune(0), 127);
        Due.is("one", x.tune(1), 1);
        x.mend(15, 0, 7);
        Due.is("as it is: any, the least", x.tune(0), 0);
        Due.is("one", x.tune(1), 1);
    }

    private static void tuneAsItIs() {
        ThreshedSound x = oneMan();
        x.mend(0, 3, 1);
        x.mend(0, 0, 1);
        x.mend(1, 0, 2);
        x.mend(4, 0, 3);
        Due.tell(x, 1);
        Due.tell(x, 2);
        Due.tell(x, 3);
        Due.is("plank 0 keeps its tone", x.tune(0), 1);
        Due.is("all three", x.tune(1), 3);
        Due.tell(x, 4);
        Due.is("one must be given for another: the least", x.tune(0), 1);
        Due.is("three of four", x.tune(1), 3);
    }

    private static void tuneTheLeastOfLikeOnes() {
        ThreshedSound x = oneMan();
        x.mend(0, 3, 1);
        Due.tell(x, 6);
        Due.tell(x, 5);
        Due.is("plank 0, the lesser tone", x.tune(0), 5);
        Due.is("one", x.tune(1), 1);
        x.mend(0, 2, 5);
        Due.is("plank 1 is the least he reaches", x.tune(0), 8 + 5);
        Due.tell(x, 6);
        Due.is("two beat one", x.tune(0), 8 + 6);
        Due.is("two", x.tune(1), 2);
    }

    private static void tuneEightSayings() {
        ThreshedSound x = oneMan();
        x.mend(0, 3, 0);
        for (int saying = 0; saying < 8; saying++) {
            Due.tell(x, 7);
        }
        Due.is("tone 7", x.tune(0), 7);
        Due.is("all eight", x.tune(1), 8);
    }

    private static void inThoughtAlone() {
        ThreshedSound x = oneMan();
        x.mend(0, 1, 3);
        Due.tell(x, 0, 0);
        for (int i = 0; i < 2; i++) {
            Due.is("can", x.can(), 1);
            Due.is("say", x.say(0, 1), 0);
            Due.is("rows", x.rows(2), 1);
            Due.is("thresh", x.thresh(), 3);
            Due.is("tune", x.tune(0), 0);
        }
        Due.is("corn", x.of(0, 1), 3);
        Due.is("tone", x.of(15, 0), 0);
        Due.is("beats", x.led(0), 0);
        Due.is("changes", x.count(3), 2);
    }
}
