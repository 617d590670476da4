/** The bounds of planks, men and sayings: a sentence of the document a test (promises 1 to 5 and 8). */
public final class MenBoundsTest {
    private static final int MIN = Integer.MIN_VALUE;
    private static final int MAX = Integer.MAX_VALUE;

    public static void main(String[] args) {
        aNewObjectIsAFloorAndNobody();
        planksAre0To15();
        fourMenComeAndNoFifth();
        aManIsNoManAheadOfHisComing();
        tonesAre0To7();
        cornIs0To9();
        planksOfMenAre0To15();
        reachIs0To6();
        armIs0To12();
        lateIs0To9();
        roadIs0To20AndOne();
        tonesOfSayingsAre0To7();
        tonesOfSayingsAreNumberedByTens();
        tonesOfShorterAndShorterSayings();
        whatIs0To7And8ForOfAlone();
        mendAnswersWhatItWas();
        reachIsXAndYTogether();
        reachGoesRoundNoEdge();
        sayingsHave1To6Tones();
        sayingsLieWithinTheirRow();
        sayingsAreOfTones();
        eightSayingsComeAndNoNinth();
        sayingsAnswerInTheirOrder();
        sayingsOfARowOfBytesAlone();
        Due.end();
    }

    private static void aNewObjectIsAFloorAndNobody() {
        ThreshedSound x = new ThreshedSound();
        for (int plank = 0; plank < 16; plank++) {
            Due.is("tone at first", x.of(plank, 0), 0);
            Due.is("corn at first", x.of(plank, 1), 0);
        }
        Due.is("road at first", x.of(0, 6), 0);
        for (int what = 2; what <= 5; what++) {
            Due.is("no man", x.of(0, what), -1);
        }
        Due.is("no saying", x.of(0, 8), -1);
        Due.is("nobody reaches", x.reach(0), -1);
        Due.is("law() of an empty tape", x.law(), -100);
        Due.is("still nobody", x.count(0), 0);
    }

    private static void planksAre0To15() {
        ThreshedSound x = new ThreshedSound();
        for (int plank : new int[] {-1, 16, MIN, MAX}) {
            Due.is("man", x.man(plank), -1);
            Due.is("sow", x.sow(plank), -1);
            Due.is("mend tone", x.mend(plank, 0, 1), -1);
            Due.is("mend corn", x.mend(plank, 1, 1), -1);
            Due.is("of tone", x.of(plank, 0), -1);
            Due.is("of corn", x.of(plank, 1), -1);
        }
        Due.is("nobody came", x.count(0), 0);
        Due.is("no change came", x.count(3), 0);
        Due.is("nothing was sown", x.led(4), 0);
        for (int plank : new int[] {0, 15}) {
            Due.is("man", x.man(plank), plank / 15);
            Due.is("sow", x.sow(plank), 1);
            Due.is("mend tone", x.mend(plank, 0, 1), 0);
            Due.is("mend corn", x.mend(plank, 1, 2), 1);
            Due.is("of tone", x.of(plank, 0), 1);
            Due.is("of corn", x.of(plank, 1), 2);
        }
    }

    private static void fourMenComeAndNoFifth() {
        ThreshedSound x = new ThreshedSound();
        Due.is("men at first", x.count(0), 0);
        for (int man = 0; man < 4; man++) {
            Due.is("man", x.man(15 - man), man);
            Due.is("men", x.count(0), man + 1);
        }
        Due.is("a fifth", x.man(0), -3);
        Due.is("a fifth, no plank: BAD first", x.man(16), -1);
        Due.is("a fifth, no plank: BAD first", x.man(-1), -1);
        Due.is("men", x.count(0), 4);
        Due.is("the last", x.of(3, 2), 12);
        Due.is("no fifth", x.of(4, 2), -1);
        Due.is("no fifth", x.reach(4), -1);
        Due.is("no fifth", x.mend(4, 2, 0), -1);
    }

    private static void aManIsNoManAheadOfHisComing() {
        ThreshedSound x = new ThreshedSound();
        for (int men = 0; men < 4; men++) {
            for (int what = 2; what <= 5; what++) {
                Due.is("of the next", x.of(men, what), -1);
                Due.is("mend of the next", x.mend(men, what, 1), -1);
            }
            Due.is("reach of the next", x.reach(men), -1);
            x.man(5);
            Due.is("plank as told", x.of(men, 2), 5);
            Due.is("reach at first", x.of(men, 3), 2);
            Due.is("arm at first", x.of(men, 4), 12);
            Due.is("late at first", x.of(men, 5), 0);
        }
        Due.is("reach(-1)", x.reach(-1), -1);
        Due.is("reach(MIN)", x.reach(MIN), -1);
        Due.is("reach(MAX)", x.reach(MAX), -1);
    }

    private static void tonesAre0To7() {
        becomes(0, 15, 7, 0);
    }

    private static void cornIs0To9() {
        becomes(1, 15, 9, 0);
    }

    private static void planksOfMenAre0To15() {
        becomes(2, 3, 15, 9);
    }

    private static void reachIs0To6() {
        becomes(3, 3, 6, 2);
    }

    private static void armIs0To12() {
        becomes(4, 3, 12, 12);
    }

    private static void lateIs0To9() {
        becomes(5, 3, 9, 0);
    }

    private static void roadIs0To20AndOne() {
        becomes(6, 0, 20, 0);
    }

    private static void tonesOfSayingsAre0To7() {
        becomes(7, 75, 7, 4);
    }

    /** A number of each kind: the last one, its least and greatest, and what lies beyond. */
    private static void becomes(int what, int lastNumber, int most, int first) {
        ThreshedSound x = crowded();
        Due.is("at first, of " + what, x.of(lastNumber, what), first);
        for (int v : new int[] {-1, most + 1, MIN, MAX}) {
            Due.is("mend to " + v + " of " + what, x.mend(lastNumber, what, v), -1);
            Due.is("it stays, of " + what, x.of(lastNumber, what), first);
        }
        Due.is("no change, of " + what, x.count(3), 0);
        int other = first == 1 ? 2 : 1;
        Due.is("mend, of " + what, x.mend(lastNumber, what, other), first);
        Due.is("mend to the least, of " + what, x.mend(lastNumber, what, 0), other);
        Due.is("the least, of " + what, x.of(lastNumber, what), 0);
        Due.is("mend to the greatest, of " + what, x.mend(lastNumber, what, most), 0);
        Due.is("the greatest, of " + what, x.of(lastNumber, what), most);
        for (int number : new int[] {-1, lastNumber + 1, MIN, MAX}) {
            Due.is("mend of no number, of " + what, x.mend(number, what, 1), -1);
            Due.is("of no number, of " + what, x.of(number, what), -1);
        }
        Due.is("mend of the first, of " + what, x.mend(0, what, most) >= 0 ? 1 : 0, 1);
        Due.is("the greatest stays, of " + what, x.of(lastNumber, what), most);
    }

    /** Four men on PLANK 9, eight sayings of six tones. */
    private static ThreshedSound crowded() {
        ThreshedSound x = new ThreshedSound();
        for (int man = 0; man < 4; man++) {
            x.man(9);
        }
        Due.bytes(x, 0, 4, 4, 4, 4, 4, 4);
        for (int saying = 0; saying < 8; saying++) {
            x.saying(0, 0, 6);
        }
        return x;
    }

    private static void tonesOfSayingsAreNumberedByTens() {
        ThreshedSound x = new ThreshedSound();
        for (int n = 1; n <= 6; n++) {
            int[] tones = new int[n];
            tones[n - 1] = n;
            Due.tell(x, tones);
        }
        for (int saying = 0; saying < 8; saying++) {
            int n = saying < 6 ? saying + 1 : 0;
            for (int which = 0; which < 10; which++) {
                int number = 10 * saying + which;
                int due = which >= n ? -1 : which == n - 1 ? n : 0;
                Due.is("of(" + number + ", 7)", x.of(number, 7), due);
                Due.is("mend(" + number + ", 7, 7)", x.mend(number, 7, 7), due);
                Due.is("of(" + number + ", 7) then", x.of(number, 7), due == -1 ? -1 : 7);
            }
        }
        Due.is("of(-10, 7)", x.of(-10, 7), -1);
        Due.is("mend(-10, 7, 1)", x.mend(-10, 7, 1), -1);
        for (int saying = 0; saying < 6; saying++) {
            Due.is("tones stay as many", x.of(saying, 8), saying + 1);
        }
    }

    private static void tonesOfShorterAndShorterSayings() {
        ThreshedSound x = new ThreshedSound();
        for (int n = 6; n >= 1; n--) {
            Due.tell(x, new int[n]);
        }
        for (int number = 0; number < 80; number++) {
            Due.is("of(" + number + ", 7)", x.of(number, 7), number % 10 < 6 - number / 10 ? 0 : -1);
        }
    }

    private static void whatIs0To7And8ForOfAlone() {
        ThreshedSound x = crowded();
        for (int what : new int[] {-1, 8, 9, MIN, MAX}) {
            Due.is("mend of " + what, x.mend(0, what, 0), -1);
            Due.is("of " + what, x.of(0, what), what == 8 ? 6 : -1);
        }
        Due.is("mend is no change", x.count(3), 0);
        Due.is("of(7, 8)", x.of(7, 8), 6);
        Due.is("of(8, 8)", x.of(8, 8), -1);
        Due.is("of(-1, 8)", x.of(-1, 8), -1);
        Due.is("of(70, 8): no tens here", x.of(70, 8), -1);
    }

    private static void mendAnswersWhatItWas() {
        ThreshedSound x = new ThreshedSound();
        Due.is("mend(0, 1, 9)", x.mend(0, 1, 9), 0);
        Due.is("the same number", x.mend(0, 1, 9), 9);
        Due.is("mend(0, 1, 0)", x.mend(0, 1, 0), 9);
        Due.is("the same number", x.mend(0, 1, 0), 0);
        Due.is("changes", x.count(3), 2);
    }

    private static void reachIsXAndYTogether() {
        ThreshedSound x = new ThreshedSound();
        x.man(0);
        Due.is("2 from a corner", x.reach(0), 1 | 1 << 1 | 1 << 2 | 1 << 4 | 1 << 5 | 1 << 8);
        x.mend(0, 3, 0);
        Due.is("0: his own", x.reach(0), 1);
        x.mend(0, 3, 1);
        Due.is("1 from a corner", x.reach(0), 1 | 1 << 1 | 1 << 4);
        x.mend(0, 3, 5);
        Due.is("5: all but the far corner", x.reach(0), 0x7fff);
        x.mend(0, 3, 6);
        Due.is("6: all", x.reach(0), 0xffff);
        x.mend(0, 2, 15);
        x.mend(0, 3, 5);
        Due.is("5 from the other corner", x.reach(0), 0xfffe);
        x.mend(0, 2, 5);
        x.mend(0, 3, 3);
        Due.is("3 from within", x.reach(0), 0x7fff);
        x.mend(0, 3, 4);
        Due.is("4 from within", x.reach(0), 0xffff);
    }

    private static void reachGoesRoundNoEdge() {
        ThreshedSound x = new ThreshedSound();
        x.man(3);
        x.mend(0, 3, 1);
        Due.is("3 is not beside 4", x.reach(0), 1 << 2 | 1 << 3 | 1 << 7);
        x.mend(0, 2, 12);
        Due.is("12 is not beside 11", x.reach(0), 1 << 8 | 1 << 12 | 1 << 13);
        x.mend(0, 2, 7);
        Due.is("7 is not beside 8", x.reach(0), 1 << 3 | 1 << 6 | 1 << 7 | 1 << 11);
    }

    private static void sayingsHave1To6Tones() {
        ThreshedSound x = new ThreshedSound();
        Due.bytes(x, 0, 1, 2, 3, 4, 5, 6, 7, 0);
        for (int n : new int[] {0, 7, -1, MIN, MAX}) {
            Due.is("saying of " + n, x.saying(0, 0, n), -1);
        }
        Due.is("none came", x.count(1), 0);
        Due.is("saying of 1", x.saying(0, 0, 1), 0);
        Due.is("it has", x.of(0, 8), 1);
        Due.is("saying of 6", x.saying(0, 0, 6), 1);
        Due.is("it has", x.of(1, 8), 6);
        Due.is("its last", x.of(15, 7), 6);
    }

    private static void sayingsLieWithinTheirRow() {
        ThreshedSound x = new ThreshedSound();
        Due.bytes(x, 0, 1, 2, 3);
        Due.is("from 0", x.saying(0, 0, 3), 0);
        Due.is("one lacks", x.saying(0, 0, 4), -1);
        Due.is("from -1", x.saying(0, -1, 3), -1);
        Due.is("from -1, one", x.saying(0, -1, 1), -1);
        Due.is("from 2", x.saying(0, 2, 1), 1);
        Due.is("from 2, one lacks", x.saying(0, 2, 2), -1);
        Due.is("from 3", x.saying(0, 3, 1), -1);
        for (int i : new int[] {MIN, MIN + 5, MAX, MAX - 5}) {
            Due.is("from " + i, x.saying(0, i, 6), -1);
        }
        x.row(0, 0, 60);
        Due.is("the last six of sixty", x.saying(0, 54, 6), 2);
        Due.is("one lacks", x.saying(0, 55, 6), -1);
        x.row(0, 0, 0);
        Due.is("a row of none", x.saying(0, 0, 1), -1);
        Due.is("sayings", x.count(1), 3);
    }

    private static void sayingsAreOfTones() {
        ThreshedSound x = new ThreshedSound();
        Due.bytes(x, 0, 8, 0, 7, -1, 7, 127, 0, -128);
        Due.is("what is no tone beside it", x.saying(0, 1, 2), 0);
        Due.is("8 first", x.saying(0, 0, 3), -1);
        Due.is("-1 last", x.saying(0, 1, 3), -1);
        Due.is("8 alone", x.saying(0, 0, 1), -1);
        Due.is("-1 alone", x.saying(0, 3, 1), -1);
        Due.is("127", x.saying(0, 4, 2), -1);
        Due.is("-128", x.saying(0, 6, 2), -1);
        x.put(0, 0, 256 + 7);
        Due.is("lowest bits of 263", x.saying(0, 0, 1), 1);
        Due.is("a tone of 7", x.of(10, 7), 7);
    }

    private static void eightSayingsComeAndNoNinth() {
        ThreshedSound x = new ThreshedSound();
        Due.bytes(x, 0, 5);
        for (int saying = 0; saying < 8; saying++) {
            Due.is("of the next", x.of(saying, 8), -1);
            Due.is("of the next", x.of(10 * saying, 7), -1);
            Due.is("saying", x.saying(0, 0, 1), saying);
            Due.is("sayings", x.count(1), saying + 1);
        }
        Due.is("a ninth", x.saying(0, 0, 1), -3);
        Due.is("sayings", x.count(1), 8);
        Due.is("no ninth", x.of(8, 8), -1);
        Due.is("no ninth", x.of(80, 7), -1);
    }

    private static void sayingsAnswerInTheirOrder() {
        ThreshedSound x = new ThreshedSound();
        Due.is("SHELF, though nothing is there", x.saying(6, 0, 1), -1);
        Due.is("SHELF", x.saying(-1, 0, 1), -1);
        Due.is("n ahead of -11", x.saying(0, 0, 7), -1);
        Due.is("-11 ahead of the place", x.saying(0, -1, 1), -11);
        x.row(0, 1, 2);
        Due.is("n ahead of -12", x.saying(0, 0, 0), -1);
        Due.is("-12 ahead of the place", x.saying(0, -1, 1), -12);
        Due.is("-12 ahead of what lacks", x.saying(0, 2, 1), -12);
        Due.bytes(x, 1, 0);
        for (int i = 0; i < 8; i++) {
            x.saying(1, 0, 1);
        }
        Due.is("what lacks ahead of FULL", x.saying(1, 0, 2), -1);
        Due.is("a place below ahead of FULL", x.saying(1, -1, 1), -1);
        Due.is("-11 ahead of FULL", x.saying(2, 0, 1), -11);
        Due.is("-12 ahead of FULL", x.saying(0, 0, 1), -12);
        Due.is("n ahead of FULL", x.saying(1, 0, 0), -1);
        x.put(1, 0, 8);
        Due.is("no tone ahead of FULL", x.saying(1, 0, 1), -1);
        x.put(1, 0, 7);
        Due.is("FULL", x.saying(1, 0, 1), -3);
    }

    private static void sayingsOfARowOfBytesAlone() {
        ThreshedSound x = new ThreshedSound();
        x.body(0);
        x.keep(5, 0);
        for (int sort = 0; sort < 5; sort++) {
            x.row(sort, sort, 1);
        }
        Due.is("bytes", x.saying(0, 0, 1), 0);
        for (int shelf = 1; shelf < 6; shelf++) {
            Due.is("no bytes", x.saying(shelf, 0, 1), -12);
        }
        x.keep(5, -1);
        Due.is("nothing", x.saying(5, 0, 1), -11);
    }
}
