/** The bounds of deeds, images and changes: a sentence of the document a test (promises 28 to 34). */
public final class DeedsBoundsTest {
    private static final int MIN = Integer.MIN_VALUE;
    private static final int MAX = Integer.MAX_VALUE;

    public static void main(String[] args) {
        strikeOf0To16();
        strikeOfNoMen();
        strikeWithinReach();
        strikeByTheManOfTheBeat();
        cornTakenAndNeverBelowZero();
        aRestIsABeatAndNoStroke();
        lateIsNothingInDeed();
        sowTo9();
        ledIs0To4And10To15();
        latestAsManyAsThereAre();
        theLatestSixBeats();
        theToneAsItWasHeard();
        backToNoImage();
        imageOfBeat0();
        imageKeepsCornAndWhatLedTells();
        imageKeepsNothingElse();
        imageStaysAndANewerOneTakesItsPlace();
        undoOfNoneAndOne();
        redoOfNoneAndOne();
        allNumbersAreChanges();
        theSameNumberIsNone();
        refusalsAndAllElseAreNone();
        fortyAtMost();
        fortyFirstDropsTheFirst();
        eachOfTheFortyStaysItself();
        againAsLongAsNoOtherCame();
        anotherBehindSomeUndone();
        undoneLatestFirst();
        deedsAndChangesOfCorn();
        imagesAndChanges();
        Due.end();
    }

    private static ThreshedSound oneMan() {
        ThreshedSound x = new ThreshedSound();
        x.man(0);
        x.mend(0, 3, 6);
        return x;
    }

    private static void ledIs(ThreshedSound x, int... due) {
        for (int what = 0; what < 5; what++) {
            Due.is("led(" + what + ")", x.led(what), due[what]);
        }
    }

    private static void latestAre(ThreshedSound x, int... due) {
        for (int k = 0; k < 6; k++) {
            Due.is("led(10 and " + k + ")", x.led(10 + k), k < due.length ? due[k] : -2);
        }
    }

    private static void strikeOf0To16() {
        ThreshedSound x = oneMan();
        for (int plank : new int[] {-1, 17, MIN, MAX}) {
            Due.is("strike(" + plank + ")", x.strike(plank), -1);
        }
        ledIs(x, 0, 0, 0, 0, 0);
        latestAre(x);
        Due.is("strike(0)", x.strike(0), 9);
        Due.is("strike(15)", x.strike(15), 9);
        Due.is("strike(16)", x.strike(16), 0);
        ledIs(x, 3, 2, 2, 0, 0);
    }

    private static void strikeOfNoMen() {
        ThreshedSound x = new ThreshedSound();
        for (int plank = 0; plank <= 16; plank++) {
            Due.is("strike(" + plank + ")", x.strike(plank), -5);
        }
        Due.is("BAD first", x.strike(17), -1);
        Due.is("BAD first", x.strike(-1), -1);
        ledIs(x, 0, 0, 0, 0, 0);
        x.man(0);
        Due.is("then one comes", x.strike(16), 0);
    }

    private static void strikeWithinReach() {
        ThreshedSound x = oneMan();
        x.mend(6, 1, 9);
        for (int far = 0; far < 3; far++) {
            x.mend(0, 3, far);
            Due.is("reach " + far, x.strike(6), -5);
            Due.is("BAD first", x.strike(17), -1);
        }
        Due.is("corn stays", x.of(6, 1), 9);
        ledIs(x, 0, 0, 0, 0, 0);
        latestAre(x);
        x.mend(0, 3, 3);
        Due.is("reach 3", x.strike(6), 6);
        Due.is("corn", x.of(6, 1), 8);
        x.mend(0, 3, 0);
        Due.is("his own", x.strike(0), 9);
        Due.is("beside him", x.strike(1), -5);
        Due.is("a rest is never too far", x.strike(16), 0);
    }

    private static void strikeByTheManOfTheBeat() {
        ThreshedSound x = new ThreshedSound();
        int[] planks = {0, 3, 12, 15};
        for (int plank : planks) {
            x.man(plank);
        }
        for (int beat = 0; beat < 9; beat++) {
            for (int other = 0; other < 4; other++) {
                if (other != beat % 4) {
                    Due.is("another's", x.strike(planks[other]), -5);
                }
            }
            Due.is("his own", x.strike(planks[beat % 4]), 9);
        }
    }

    private static void cornTakenAndNeverBelowZero() {
        ThreshedSound x = oneMan();
        x.mend(3, 1, 2);
        for (int left : new int[] {1, 0, 0, 0}) {
            Due.is("loud", x.strike(3), 9);
            Due.is("corn", x.of(3, 1), left);
        }
        ledIs(x, 4, 4, 4, 2, 0);
        Due.is("law", Due.lay(x, "0"), 1);
        x.mend(3, 1, 1);
        Due.is("not heard", x.strike(3), 0);
        Due.is("corn is taken, heard or not", x.of(3, 1), 0);
        ledIs(x, 5, 5, 4, 3, 0);
    }

    private static void aRestIsABeatAndNoStroke() {
        ThreshedSound x = oneMan();
        x.mend(0, 1, 5);
        Due.is("a rest", x.strike(16), 0);
        ledIs(x, 1, 0, 0, 0, 0);
        latestAre(x, 8);
        Due.is("corn", x.of(0, 1), 5);
    }

    private static void lateIsNothingInDeed() {
        ThreshedSound x = oneMan();
        x.mend(0, 5, 9);
        Due.is("on beat 0", x.strike(0), 9);
    }

    private static void sowTo9() {
        ThreshedSound x = new ThreshedSound();
        for (int corn = 1; corn <= 9; corn++) {
            Due.is("sow", x.sow(0), corn);
            Due.is("corn", x.of(0, 1), corn);
        }
        Due.is("a tenth", x.sow(0), 9);
        Due.is("corn", x.of(0, 1), 9);
        Due.is("sow(15)", x.sow(15), 1);
        for (int plank : new int[] {-1, 16, MIN, MAX}) {
            Due.is("sow(" + plank + ")", x.sow(plank), -1);
        }
        ledIs(x, 0, 0, 0, 0, 11);
        latestAre(x);
    }

    private static void ledIs0To4And10To15() {
        ThreshedSound x = oneMan();
        for (int i = 0; i < 6; i++) {
            x.strike(0);
        }
        x.sow(0);
        for (int what = 0; what < 20; what++) {
            boolean told = what < 5 || what >= 10 && what <= 15;
            Due.is("led(" + what + ")", x.led(what) == -1 ? 0 : 1, told ? 1 : 0);
        }
        for (int what : new int[] {-1, MIN, MAX, MIN + 10}) {
            Due.is("led(" + what + ")", x.led(what), -1);
        }
    }

    private static void latestAsManyAsThereAre() {
        ThreshedSound x = oneMan();
        latestAre(x);
        for (int beats = 1; beats <= 6; beats++) {
            x.strike(0);
            Due.is("the first", x.led(10 + beats - 1), 0);
            if (beats < 6) {
                Due.is("ahead of the first", x.led(10 + beats), -2);
            }
        }
        Due.is("a seventh is never told", x.led(16), -1);
    }

    private static void theLatestSixBeats() {
        ThreshedSound x = oneMan();
        for (int plank = 0; plank < 8; plank++) {
            x.mend(plank, 0, plank);
        }
        for (int plank : new int[] {7, 6, 5, 4, 3, 2}) {
            x.strike(plank);
        }
        latestAre(x, 2, 3, 4, 5, 6, 7);
        x.strike(1);
        latestAre(x, 1, 2, 3, 4, 5, 6);
        x.strike(16);
        latestAre(x, 8, 1, 2, 3, 4, 5);
        Due.is("law", Due.lay(x, "0"), 1);
        x.strike(0);
        latestAre(x, 8, 8, 1, 2, 3, 4);
        Due.is("refused", x.strike(17), -1);
        latestAre(x, 8, 8, 1, 2, 3, 4);
    }

    private static void theToneAsItWasHeard() {
        ThreshedSound x = oneMan();
        x.mend(2, 0, 5);
        x.strike(2);
        x.mend(2, 0, 6);
        x.strike(2);
        latestAre(x, 6, 5);
        x.undo();
        latestAre(x, 6, 5);
    }

    private static void backToNoImage() {
        ThreshedSound x = oneMan();
        x.strike(0);
        Due.is("none", x.back(), -5);
        ledIs(x, 1, 1, 1, 0, 0);
        Due.is("image", x.image(), 1);
        Due.is("one", x.back(), 1);
    }

    private static void imageOfBeat0() {
        ThreshedSound x = oneMan();
        Due.is("image", x.image(), 0);
        x.strike(0);
        x.sow(3);
        Due.is("back", x.back(), 0);
        ledIs(x, 0, 0, 0, 0, 0);
        latestAre(x);
        Due.is("corn", x.of(3, 1), 0);
    }

    private static void imageKeepsCornAndWhatLedTells() {
        ThreshedSound x = oneMan();
        x.man(15);
        for (int plank = 0; plank < 16; plank++) {
            x.mend(plank, 1, plank % 10);
            x.mend(plank, 0, plank % 8);
        }
        x.strike(5);
        x.strike(16);
        x.strike(9);
        x.sow(0);
        Due.is("image", x.image(), 3);
        x.strike(15);
        for (int i = 0; i < 7; i++) {
            x.strike(16);
            x.sow(i);
        }
        x.mend(9, 1, 1);
        Due.is("back", x.back(), 3);
        ledIs(x, 3, 2, 2, 2, 1);
        latestAre(x, 1, 8, 5);
        for (int plank = 0; plank < 16; plank++) {
            int corn = plank == 0 ? 1 : plank == 5 ? 4 : plank == 9 ? 8 : plank % 10;
            Due.is("corn of " + plank, x.of(plank, 1), corn);
        }
        Due.is("it is the other's beat", x.strike(0), -5);
        Due.is("it is the other's beat", x.strike(15), 8);
    }

    private static void imageKeepsNothingElse() {
        ThreshedSound x = oneMan();
        Due.tell(x, 1);
        x.image();
        x.mend(4, 0, 3);
        x.mend(0, 2, 7);
        x.mend(0, 3, 1);
        x.mend(0, 4, 2);
        x.mend(0, 5, 3);
        x.mend(0, 6, 4);
        x.mend(0, 7, 5);
        x.man(9);
        Due.tell(x, 2);
        x.body(3);
        x.act(0, 0, 0);
        x.row(2, 2, 2);
        x.feed('5');
        x.back();
        Due.is("tone", x.of(4, 0), 3);
        for (int what = 2; what <= 7; what++) {
            Due.is("number " + what, x.of(0, what), new int[] {7, 1, 2, 3, 4, 5}[what - 2]);
        }
        int[] counts = {2, 2, 1, 8, 1, 1};
        for (int what = 0; what < 6; what++) {
            Due.is("count(" + what + ")", x.count(what), counts[what]);
        }
        Due.is("row", x.element(2, 1), 0);
        Due.is("law", x.law(), 1);
        x.back();
        Due.is("the law stays", x.strike(7), 5);
    }

    private static void imageStaysAndANewerOneTakesItsPlace() {
        ThreshedSound x = oneMan();
        x.mend(0, 1, 9);
        x.strike(0);
        x.image();
        for (int times = 0; times < 3; times++) {
            x.strike(0);
            x.strike(0);
            Due.is("back", x.back(), 1);
            Due.is("corn", x.of(0, 1), 8);
        }
        x.strike(0);
        Due.is("a newer one", x.image(), 2);
        x.strike(0);
        Due.is("back", x.back(), 2);
        Due.is("corn", x.of(0, 1), 7);
        Due.is("back, nothing between", x.back(), 2);
    }

    private static void undoOfNoneAndOne() {
        ThreshedSound x = new ThreshedSound();
        Due.is("none", x.undo(), -5);
        x.mend(0, 0, 3);
        Due.is("one", x.undo(), 0);
        Due.is("as it was", x.of(0, 0), 0);
        Due.is("none", x.undo(), -5);
        Due.is("none", x.count(3), 0);
    }

    private static void redoOfNoneAndOne() {
        ThreshedSound x = new ThreshedSound();
        Due.is("none", x.redo(), -5);
        x.mend(0, 0, 3);
        Due.is("none undone", x.redo(), -5);
        x.undo();
        Due.is("one", x.redo(), 0);
        Due.is("as it became", x.of(0, 0), 3);
        Due.is("none", x.redo(), -5);
        Due.is("one to undo", x.count(3), 1);
    }

    private static void allNumbersAreChanges() {
        ThreshedSound x = new ThreshedSound();
        x.man(5);
        x.man(5);
        Due.tell(x, 7, 7);
        Due.tell(x, 7, 7);
        int[] numbers = {15, 15, 1, 1, 1, 1, 0, 11};
        int[] before = new int[8];
        for (int what = 0; what < 8; what++) {
            before[what] = x.of(numbers[what], what);
            Due.is("mend", x.mend(numbers[what], what, 1), before[what]);
            Due.is("changes", x.count(3), what + 1);
        }
        for (int what = 7; what >= 0; what--) {
            Due.is("undo", x.undo(), what);
            Due.is("as it was", x.of(numbers[what], what), before[what]);
        }
        for (int what = 0; what < 8; what++) {
            Due.is("redo", x.redo(), 7 - what);
            Due.is("as it became", x.of(numbers[what], what), 1);
        }
    }

    private static void theSameNumberIsNone() {
        ThreshedSound x = oneMan();
        Due.is("as it is", x.mend(0, 1, 0), 0);
        Due.is("one change", x.count(3), 1);
        x.mend(0, 1, 4);
        x.undo();
        Due.is("as it is", x.mend(0, 1, 0), 0);
        Due.is("the same number came behind", x.redo(), 0);
        Due.is("done again", x.of(0, 1), 4);
        Due.is("as it is", x.mend(0, 1, 4), 4);
        Due.is("two changes", x.count(3), 2);
    }

    private static void refusalsAndAllElseAreNone() {
        ThreshedSound x = new ThreshedSound();
        x.mend(0, 6, 5);
        x.mend(0, 6, 6);
        x.undo();
        x.mend(0, 6, 21);
        x.mend(1, 6, 1);
        x.mend(0, 8, 1);
        x.man(3);
        Due.tell(x, 1);
        Due.lay(x, "3");
        x.sow(0);
        x.strike(3);
        x.image();
        x.back();
        x.body(0);
        x.keep(0, 0);
        Due.is("one change", x.count(3), 1);
        Due.is("none of that came behind", x.redo(), 0);
        Due.is("road", x.of(0, 6), 6);
        Due.is("undo", x.undo(), 1);
        Due.is("undo", x.undo(), 0);
        Due.is("undo", x.undo(), -5);
        Due.is("the man stays", x.count(0), 1);
        Due.is("the saying stays", x.count(1), 1);
    }

    private static void fortyAtMost() {
        ThreshedSound x = new ThreshedSound();
        for (int i = 1; i <= 40; i++) {
            x.mend(i % 16, 0, 1 + i / 16);
            Due.is("changes", x.count(3), i);
        }
        for (int i = 39; i >= 0; i--) {
            Due.is("undo", x.undo(), i);
        }
        Due.is("none left", x.undo(), -5);
        for (int plank = 0; plank < 16; plank++) {
            Due.is("as at first", x.of(plank, 0), 0);
        }
        for (int i = 39; i >= 0; i--) {
            Due.is("redo", x.redo(), i);
        }
        Due.is("none left", x.redo(), -5);
        for (int plank = 0; plank < 16; plank++) {
            Due.is("as at last", x.of(plank, 0), plank > 8 ? 2 : 3);
        }
    }

    private static void fortyFirstDropsTheFirst() {
        ThreshedSound x = new ThreshedSound();
        x.mend(0, 0, 1);
        x.mend(1, 0, 1);
        for (int i = 2; i < 41; i++) {
            x.mend(0, 6, i % 2 + 1);
        }
        Due.is("forty", x.count(3), 40);
        for (int i = 39; i >= 0; i--) {
            Due.is("undo", x.undo(), i);
        }
        Due.is("none left", x.undo(), -5);
        Due.is("the first stays", x.of(0, 0), 1);
        Due.is("the second is undone", x.of(1, 0), 0);
        Due.is("the road", x.of(0, 6), 0);
        Due.is("the second again", x.redo(), 39);
        Due.is("the second is done", x.of(1, 0), 1);
    }

    /** 55 changes, of which the first fifteen can't be undone: numbers of three kinds, each to another value. */
    private static void eachOfTheFortyStaysItself() {
        ThreshedSound x = new ThreshedSound();
        for (int i = 0; i < 55; i++) {
            x.mend(i % 11, i % 2, 1 + i / 11);
        }
        for (int i = 54; i >= 15; i--) {
            Due.is("behind change " + i, x.of(i % 11, i % 2), 1 + i / 11);
            Due.is("undo", x.undo(), i - 15);
            int was = i < 22 ? 0 : 1 + (i - 22) / 11;
            Due.is("ahead of change " + i, x.of(i % 11, i % 2), was);
        }
        Due.is("none left", x.undo(), -5);
        for (int i = 0; i < 15; i++) {
            Due.is("change " + i + " stays", x.of(i % 11, i % 2), 1 + i / 11);
        }
        for (int i = 15; i < 55; i++) {
            Due.is("redo", x.redo(), 54 - i);
            Due.is("behind change " + i, x.of(i % 11, i % 2), 1 + i / 11);
        }
    }

    private static void againAsLongAsNoOtherCame() {
        ThreshedSound x = new ThreshedSound();
        x.mend(0, 0, 1);
        x.mend(0, 0, 2);
        x.undo();
        x.mend(1, 0, 5);
        Due.is("another came behind", x.redo(), -5);
        Due.is("as it was", x.of(0, 0), 1);
        Due.is("changes", x.count(3), 2);
        x.undo();
        x.undo();
        Due.is("two again", x.redo(), 1);
        Due.is("two again", x.redo(), 0);
        Due.is("no third", x.redo(), -5);
        Due.is("the other", x.of(1, 0), 5);
    }

    private static void anotherBehindSomeUndone() {
        ThreshedSound x = new ThreshedSound();
        for (int i = 0; i < 40; i++) {
            x.mend(0, 6, i % 2 + 1);
        }
        for (int i = 0; i < 10; i++) {
            x.undo();
        }
        x.mend(0, 6, 20);
        Due.is("thirty and one", x.count(3), 31);
        Due.is("no redo", x.redo(), -5);
        for (int i = 32; i <= 45; i++) {
            x.mend(0, 6, i % 2 + 1);
            Due.is("forty at most", x.count(3), Math.min(40, i));
        }
        for (int i = 39; i >= 0; i--) {
            Due.is("undo", x.undo(), i);
        }
        Due.is("none left", x.undo(), -5);
        x.mend(0, 6, 9);
        Due.is("one, and no more again", x.count(3), 1);
        Due.is("no redo", x.redo(), -5);
    }

    private static void undoneLatestFirst() {
        ThreshedSound x = new ThreshedSound();
        for (int v = 1; v <= 7; v++) {
            x.mend(3, 0, v);
        }
        for (int v = 6; v >= 3; v--) {
            Due.is("undo", x.undo(), v);
            Due.is("tone", x.of(3, 0), v);
        }
        for (int v = 4; v <= 7; v++) {
            Due.is("redo", x.redo(), 7 - v);
            Due.is("tone", x.of(3, 0), v);
        }
        Due.is("changes", x.count(3), 7);
    }

    private static void deedsAndChangesOfCorn() {
        ThreshedSound x = oneMan();
        x.mend(0, 1, 5);
        x.strike(0);
        Due.is("by a deed", x.of(0, 1), 4);
        Due.is("told as it is: none", x.mend(0, 1, 4), 4);
        Due.is("two changes", x.count(3), 2);
        Due.is("undo", x.undo(), 1);
        Due.is("as ahead of the change", x.of(0, 1), 0);
        x.sow(0);
        Due.is("redo", x.redo(), 0);
        Due.is("as behind the change", x.of(0, 1), 5);
        ledIs(x, 1, 1, 1, 1, 1);
    }

    private static void imagesAndChanges() {
        ThreshedSound x = oneMan();
        x.mend(0, 1, 5);
        x.image();
        x.mend(0, 1, 7);
        x.undo();
        x.back();
        Due.is("redo behind an image laid back", x.redo(), 0);
        Due.is("corn", x.of(0, 1), 7);
        x.back();
        Due.is("corn of the image", x.of(0, 1), 5);
        Due.is("changes stay", x.count(3), 3);
        Due.is("undo", x.undo(), 2);
        Due.is("as ahead of the change", x.of(0, 1), 5);
    }
}
