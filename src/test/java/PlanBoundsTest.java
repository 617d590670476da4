/** The bounds of plans in thought: a sentence of the document a test (promises 9 to 11). */
public final class PlanBoundsTest {
    private static final int MIN = Integer.MIN_VALUE;
    private static final int MAX = Integer.MAX_VALUE;

    public static void main(String[] args) {
        fortyBeatsAtMost();
        sixteenIsARest();
        itEndsWithWhatIsNeither();
        itEndsWithWhatTheManCannotReach();
        noMenAtOnce();
        fromBeat0WhateverBeatItIs();
        menByTurns();
        aRowOfBytesOnAShelf();
        cornIsOneLessAndNeverBelowZero();
        cornOfAllThen();
        allIsThreshedBehind();
        tonesOfBeats();
        heardOnes();
        saidAtBothEnds();
        saidWithoutRests();
        saidWithoutWhatIsNotHeard();
        firstBeatOfSeveral();
        sayingsAsLongAsThePlan();
        sayingsAcrossTheFortiethBeat();
        whatIs0To4();
        numbersBehind();
        inThoughtAlone();
        Due.end();
    }

    /** Tones 0 to 7 twice over, men enough who reach all. */
    private static ThreshedSound floor(int men) {
        ThreshedSound x = new ThreshedSound();
        for (int plank = 0; plank < 16; plank++) {
            x.mend(plank, 0, plank % 8);
        }
        for (int man = 0; man < men; man++) {
            x.man(0);
            x.mend(man, 3, 6);
        }
        return x;
    }

    private static void fortyBeatsAtMost() {
        ThreshedSound x = floor(1);
        for (int n : new int[] {0, 1, 39, 40, 41, 60}) {
            x.row(0, 0, n);
            int beats = Math.min(40, n);
            Due.is("beats of a row of " + n, x.plan(0, 0), beats);
            Due.is("heard of a row of " + n, x.plan(0, 1), beats);
            Due.is("the last beat", n == 0 ? 0 : x.tone(0, beats - 1), 0);
            Due.is("behind the last beat", x.tone(0, beats), -2);
        }
        x.mend(0, 1, 9);
        x.mend(1, 1, 9);
        x.mend(2, 1, 9);
        x.mend(3, 1, 9);
        x.mend(4, 1, 5);
        x.row(0, 0, 60);
        for (int i = 0; i < 60; i++) {
            x.put(0, i, i < 36 ? i / 9 : 4);
        }
        Due.is("corn: 41 less 40", x.plan(0, 2), 1);
        Due.is("corn of the last", x.behind(0, 4, 0), 1);
        Due.is("not threshed by the 41st", x.plan(0, 3), -2);
        x.mend(4, 1, 4);
        Due.is("threshed by the 40th", x.plan(0, 3), 40);
        Due.is("corn", x.plan(0, 2), 0);
    }

    private static void sixteenIsARest() {
        ThreshedSound x = floor(1);
        x.mend(0, 3, 0);
        Due.bytes(x, 0, 16, 0, 16);
        Due.is("beats", x.plan(0, 0), 3);
        Due.is("heard", x.plan(0, 1), 1);
        Due.is("a rest first", x.tone(0, 0), -2);
        Due.is("a stroke", x.tone(0, 1), 0);
        Due.is("a rest last", x.tone(0, 2), -2);
        x.row(0, 0, 60);
        for (int i = 0; i < 60; i++) {
            x.put(0, i, 16);
        }
        Due.is("rests alone", x.plan(0, 0), 40);
        Due.is("none heard", x.plan(0, 1), 0);
        Due.is("none said", x.plan(0, 4), 0);
    }

    private static void itEndsWithWhatIsNeither() {
        ThreshedSound x = floor(1);
        for (int end : new int[] {17, 18, 127, -1, -2, -128}) {
            Due.bytes(x, 0, 0, 16, end, 0, 0);
            Due.is("ends at " + end, x.plan(0, 0), 2);
            Due.is("no tone at " + end, x.tone(0, 2), -2);
            Due.is("no tone behind " + end, x.tone(0, 3), -2);
            Due.bytes(x, 0, end, 0);
            Due.is("at once by " + end, x.plan(0, 0), 0);
        }
        for (int stroke : new int[] {0, 15, 16, 256, 271, 272}) {
            Due.bytes(x, 0, 0, stroke, 0);
            Due.is("goes on by " + stroke, x.plan(0, 0), 3);
        }
    }

    private static void itEndsWithWhatTheManCannotReach() {
        ThreshedSound x = floor(2);
        x.mend(0, 3, 1);
        Due.bytes(x, 0, 1, 2, 4, 2, 2, 2);
        Due.is("2 is too far for the man of beat 4", x.plan(0, 0), 4);
        x.mend(0, 3, 2);
        Due.is("then it is not", x.plan(0, 0), 6);
        x.mend(1, 3, 1);
        Due.is("but for the other", x.plan(0, 0), 1);
        x.put(0, 1, 16);
        Due.is("a rest is never too far", x.plan(0, 0), 3);
    }

    private static void noMenAtOnce() {
        ThreshedSound x = floor(0);
        Due.tell(x, 0);
        Due.bytes(x, 0, 16, 0);
        Due.is("beats", x.plan(0, 0), 0);
        Due.is("heard", x.plan(0, 1), 0);
        Due.is("corn", x.plan(0, 2), 0);
        Due.is("threshed behind none", x.plan(0, 3), 0);
        Due.is("said", x.plan(0, 4), 0);
        Due.is("tone", x.tone(0, 0), -2);
        Due.is("corn of a plank", x.behind(0, 0, 0), 0);
        Due.is("whole", x.behind(0, 0, 1), -2);
        x.mend(3, 1, 5);
        Due.is("corn", x.plan(0, 2), 5);
        Due.is("corn of a plank", x.behind(0, 3, 0), 5);
        Due.is("not threshed", x.plan(0, 3), -2);
        x.man(0);
        Due.is("then a man comes", x.plan(0, 0), 2);
    }

    private static void fromBeat0WhateverBeatItIs() {
        ThreshedSound x = floor(2);
        x.mend(1, 3, 0);
        Due.is("law", Due.lay(x, "b"), 1);
        Due.bytes(x, 0, 5, 0, 5, 0, 5, 0);
        for (int beat = 0; beat < 5; beat++) {
            Due.is("beats", x.plan(0, 0), 6);
            Due.is("heard: beats 1, 2, 3 and 5", x.plan(0, 1), 4);
            Due.is("beat 0", x.tone(0, 0), -2);
            Due.is("beat 2", x.tone(0, 2), 5);
            Due.is("beat 4", x.tone(0, 4), -2);
            x.strike(16);
        }
    }

    private static void menByTurns() {
        ThreshedSound x = floor(0);
        Due.bytes(x, 0, 0, 15, 0, 15, 0, 15, 15, 0, 0);
        x.man(0);
        Due.is("one man", x.plan(0, 0), 1);
        x.man(15);
        Due.is("two men", x.plan(0, 0), 6);
        x.man(0);
        Due.is("three men: the third, then the first", x.plan(0, 0), 3);
        x.man(15);
        Due.is("four men: the fourth, then the first", x.plan(0, 0), 6);
        x.put(0, 6, 0);
        x.put(0, 7, 15);
        Due.is("and round again", x.plan(0, 0), 9);
    }

    private static void aRowOfBytesOnAShelf() {
        ThreshedSound x = floor(1);
        x.body(3);
        x.keep(5, 0);
        for (int shelf = 1; shelf < 5; shelf++) {
            x.row(shelf, shelf, 1);
        }
        int[] shelves = {-1, 6, MIN, MAX, 0, 1, 2, 3, 4, 5};
        int[] due = {-1, -1, -1, -1, -11, -12, -12, -12, -12, -12};
        for (int i = 0; i < shelves.length; i++) {
            Due.is("plan", x.plan(shelves[i], 0), due[i]);
            Due.is("tone", x.tone(shelves[i], 0), due[i]);
            Due.is("behind, a plank", x.behind(shelves[i], 0, 0), due[i]);
        }
        Due.tell(x, 3);
        x.keep(5, 0);
        for (int i = 0; i < shelves.length; i++) {
            Due.is("behind, a saying", x.behind(shelves[i], 0, 1), due[i]);
        }
        for (int shelf = 0; shelf < 6; shelf++) {
            x.row(shelf, 0, 1);
            Due.is("a row of bytes", x.plan(shelf, 0), 1);
        }
    }

    private static void cornIsOneLessAndNeverBelowZero() {
        ThreshedSound x = floor(1);
        x.mend(2, 1, 2);
        Due.bytes(x, 0, 2);
        Due.is("one stroke", x.behind(0, 2, 0), 1);
        Due.bytes(x, 0, 2, 2);
        Due.is("two strokes", x.behind(0, 2, 0), 0);
        Due.bytes(x, 0, 2, 2, 2, 3);
        Due.is("three strokes", x.behind(0, 2, 0), 0);
        Due.is("none was there", x.behind(0, 3, 0), 0);
        Due.is("of all", x.plan(0, 2), 0);
        Due.bytes(x, 0, 16, 16);
        Due.is("by rests", x.behind(0, 2, 0), 2);
    }

    private static void cornOfAllThen() {
        ThreshedSound x = floor(1);
        for (int plank = 0; plank < 16; plank++) {
            x.mend(plank, 1, 9);
        }
        Due.bytes(x, 0);
        Due.is("all of it", x.plan(0, 2), 144);
        Due.bytes(x, 0, 0, 15, 16, 17, 3);
        Due.is("less two", x.plan(0, 2), 142);
    }

    private static void allIsThreshedBehind() {
        ThreshedSound x = floor(1);
        Due.bytes(x, 0, 1, 2, 16, 3);
        Due.is("nothing to thresh", x.plan(0, 3), 0);
        x.mend(1, 1, 1);
        Due.is("by the first", x.plan(0, 3), 1);
        x.mend(2, 1, 1);
        Due.is("by the second", x.plan(0, 3), 2);
        x.mend(3, 1, 1);
        Due.is("by the last", x.plan(0, 3), 4);
        x.mend(3, 1, 2);
        Due.is("one is left", x.plan(0, 3), -2);
        x.mend(3, 1, 0);
        x.mend(4, 1, 1);
        Due.is("one is left where none strikes", x.plan(0, 3), -2);
        Due.bytes(x, 0);
        Due.is("by no beat", x.plan(0, 3), -2);
    }

    private static void tonesOfBeats() {
        ThreshedSound x = floor(1);
        Due.bytes(x, 0, 7, 16, 3);
        Due.is("beat -1", x.tone(0, -1), -1);
        Due.is("beat MIN", x.tone(0, MIN), -1);
        Due.is("beat 0", x.tone(0, 0), 7);
        Due.is("beat 1, a rest", x.tone(0, 1), -2);
        Due.is("beat 2", x.tone(0, 2), 3);
        Due.is("beat 3", x.tone(0, 3), -2);
        Due.is("beat 40", x.tone(0, 40), -2);
        Due.is("beat MAX", x.tone(0, MAX), -2);
        Due.is("beat -1 ahead of -11", x.tone(1, -1), -1);
    }

    private static void heardOnes() {
        ThreshedSound x = floor(1);
        Due.is("law", Due.lay(x, "2-c"), 1);
        x.mend(4, 1, 4);
        Due.bytes(x, 0, 4, 4, 4, 4, 4, 4);
        Due.is("beats", x.plan(0, 0), 6);
        Due.is("heard with corn 1, 0 and 0", x.plan(0, 1), 3);
        Due.is("corn 2", x.tone(0, 2), -2);
        Due.is("corn 1", x.tone(0, 3), 4);
        Due.is("corn is taken, heard or not", x.plan(0, 3), 4);
    }

    private static void saidAtBothEnds() {
        ThreshedSound x = floor(1);
        Due.tell(x, 1, 2);
        Due.tell(x, 3, 4);
        Due.tell(x, 1);
        Due.tell(x, 4);
        Due.tell(x, 5);
        Due.bytes(x, 0, 1, 2, 7, 3, 4);
        Due.is("said", x.plan(0, 4), 1 | 2 | 4 | 8);
        Due.is("at the start", x.behind(0, 0, 1), 1);
        Due.is("at the end", x.behind(0, 1, 1), 4);
        Due.is("one at the start", x.behind(0, 2, 1), 0);
        Due.is("one at the end", x.behind(0, 3, 1), 4);
        Due.is("none", x.behind(0, 4, 1), -2);
        Due.bytes(x, 0, 1, 2, 7, 3);
        Due.is("the last lacks", x.behind(0, 1, 1), -2);
        Due.bytes(x, 0, 2, 7, 3, 4);
        Due.is("the first lacks", x.behind(0, 0, 1), -2);
    }

    private static void saidWithoutRests() {
        ThreshedSound x = floor(1);
        Due.tell(x, 1, 2);
        Due.bytes(x, 0, 1, 16, 2);
        Due.is("a rest between", x.plan(0, 4), 0);
        Due.bytes(x, 0, 1, 5, 2);
        Due.is("a stroke between", x.plan(0, 4), 0);
        Due.bytes(x, 0, 16, 1, 2, 16);
        Due.is("rests around", x.plan(0, 4), 1);
        Due.is("with beat 2", x.behind(0, 0, 1), 2);
        Due.bytes(x, 0, 9, 10);
        Due.is("by other planks", x.plan(0, 4), 1);
    }

    private static void saidWithoutWhatIsNotHeard() {
        ThreshedSound x = floor(1);
        Due.tell(x, 1, 2);
        Due.tell(x, 1, 1);
        Due.is("law", Due.lay(x, "!c"), 1);
        x.mend(2, 1, 1);
        Due.bytes(x, 0, 1, 2);
        Due.is("2 is not heard", x.plan(0, 4), 0);
        Due.bytes(x, 0, 1, 2, 2);
        Due.is("what is not heard between", x.plan(0, 4), 0);
        Due.bytes(x, 0, 1, 2, 1, 2);
        Due.is("then it is", x.plan(0, 4), 1);
        Due.is("with beat 3", x.behind(0, 0, 1), 3);
        Due.is("1, 1 is not", x.behind(0, 1, 1), -2);
    }

    private static void firstBeatOfSeveral() {
        ThreshedSound x = floor(1);
        Due.tell(x, 1, 1, 2);
        Due.tell(x, 1, 2, 1);
        Due.bytes(x, 0, 1, 1, 1, 2, 1, 2, 1, 1, 2);
        Due.is("1, 1, 2", x.behind(0, 0, 1), 3);
        Due.is("1, 2, 1", x.behind(0, 1, 1), 4);
    }

    private static void sayingsAsLongAsThePlan() {
        ThreshedSound x = floor(1);
        Due.tell(x, 1, 2, 3, 4, 5, 6);
        Due.bytes(x, 0, 1, 2, 3, 4, 5, 6);
        Due.is("as long", x.behind(0, 0, 1), 5);
        Due.bytes(x, 0, 1, 2, 3, 4, 5);
        Due.is("one beat less", x.behind(0, 0, 1), -2);
        Due.bytes(x, 0, 1, 2, 3, 4, 5, 17);
        Due.is("ended by 17", x.behind(0, 0, 1), -2);
        Due.bytes(x, 0);
        Due.is("no beats", x.behind(0, 0, 1), -2);
        Due.is("no beats", x.plan(0, 4), 0);
    }

    private static void sayingsAcrossTheFortiethBeat() {
        ThreshedSound x = floor(1);
        Due.tell(x, 0, 3);
        x.row(0, 0, 60);
        x.put(0, 39, 3);
        Due.is("with beat 39", x.behind(0, 0, 1), 39);
        x.put(0, 39, 0);
        x.put(0, 40, 3);
        Due.is("with beat 40", x.behind(0, 0, 1), -2);
    }

    private static void whatIs0To4() {
        ThreshedSound x = floor(1);
        Due.bytes(x, 0, 1);
        for (int what : new int[] {-1, 5, MIN, MAX}) {
            Due.is("plan " + what, x.plan(0, what), -1);
            Due.is("plan ahead of -11, " + what, x.plan(1, what), -1);
        }
        int[] due = {1, 1, 0, 0, 0};
        for (int what = 0; what < 5; what++) {
            Due.is("plan " + what, x.plan(0, what), due[what]);
        }
    }

    private static void numbersBehind() {
        ThreshedSound x = floor(1);
        Due.bytes(x, 0, 1);
        Due.is("plank 0", x.behind(0, 0, 0), 0);
        Due.is("plank 15", x.behind(0, 15, 0), 0);
        for (int number : new int[] {-1, 16, MIN, MAX}) {
            Due.is("plank " + number, x.behind(0, number, 0), -1);
            Due.is("plank ahead of -11, " + number, x.behind(1, number, 0), -1);
        }
        Due.is("no saying yet", x.behind(0, 0, 1), -1);
        for (int saying = 0; saying < 8; saying++) {
            Due.tell(x, 1);
            Due.is("saying", x.behind(0, saying, 1), 0);
            Due.is("the next", x.behind(0, saying + 1, 1), -1);
        }
        Due.is("saying -1", x.behind(0, -1, 1), -1);
        Due.is("saying 8 ahead of -11", x.behind(1, 8, 1), -1);
        for (int what : new int[] {-1, 2, MIN, MAX}) {
            Due.is("behind " + what, x.behind(0, 0, what), -1);
            Due.is("behind ahead of -11, " + what, x.behind(1, 0, what), -1);
        }
    }

    private static void inThoughtAlone() {
        ThreshedSound x = floor(2);
        x.mend(3, 1, 2);
        Due.tell(x, 3, 3);
        Due.bytes(x, 0, 3, 3, 3);
        for (int i = 0; i < 3; i++) {
            Due.is("corn then", x.plan(0, 2), 0);
            Due.is("behind", x.behind(0, 3, 0), 0);
            Due.is("whole", x.behind(0, 0, 1), 1);
        }
        Due.is("corn now", x.of(3, 1), 2);
        Due.is("no beat", x.led(0), 0);
        Due.is("no stroke", x.led(1), 0);
        Due.is("none heard", x.led(10), -2);
        Due.is("changes are those of mend()", x.count(3), 16 - 2 + 2 + 1);
    }
}
