/** The bounds of the tape and the law: a sentence of the document a test (promises 6 and 7). */
public final class LawBoundsTest {
    private static final int MIN = Integer.MIN_VALUE;
    private static final int MAX = Integer.MAX_VALUE;
    private static final String ONES = "0123456789tcrmab(!-";
    private static final String PLAIN_ONES = "0123456789tcrmab";
    private static final String JOINING = "|&+-*/%";
    private static final String COMPARING = "<=>";
    private static final String LINE_SIGNS = "?;";

    public static void main(String[] args) {
        bytesAre0To255();
        theTapeHolds120Bytes();
        lawEmptiesTheTape();
        anEmptyTextEndsTooEarly();
        whatGoesOnAtTheStart();
        whatGoesOnBehindOnes();
        numbersHave1To4Digits();
        oneComparisonInEach();
        eachLevelBindsCloser();
        noneOneOrManyJoined();
        oneQuestionInALine();
        whatGoesOnInParentheses();
        sixSignsAreOpenAtMost();
        closedSignsAreNotOpen();
        theMinusBetweenIsNotOpen();
        theLengthIfItEndsTooEarly();
        textsOf120Bytes();
        linesOf120Bytes();
        theFirstLineThatCounts();
        intsWrap();
        divisionIsTowardZeroAndByZeroGivesZero();
        truthIsOneOrZero();
        namesAtTheirBounds();
        cornAsItIsStruck();
        theBeatGoesRoundAtFour();
        loudIsHeldWithin0To9();
        heardIsAboveZero();
        withoutATextTheRoadIsCutByTwo();
        withoutATextCornIsCutByThree();
        aFaultLeavesTheLaw();
        aLawIsNoChangeAndInNoImage();
        Due.end();
    }

    private static void bytesAre0To255() {
        ThreshedSound x = new ThreshedSound();
        for (int letter : new int[] {-1, 256, MIN, MAX}) {
            Due.is("feed(" + letter + ")", x.feed(letter), -1);
        }
        Due.is("none came", x.count(2), 0);
        Due.is("feed(0)", x.feed(0), 1);
        Due.is("feed(255)", x.feed(255), 2);
        Due.is("two came", x.count(2), 2);
    }

    private static void theTapeHolds120Bytes() {
        ThreshedSound x = new ThreshedSound();
        for (int i = 1; i <= 120; i++) {
            Due.is("feed", x.feed('7'), i);
        }
        Due.is("the 121st", x.feed('7'), -3);
        Due.is("it holds", x.count(2), 120);
        Due.is("no byte: BAD first", x.feed(256), -1);
        Due.is("no byte: BAD first", x.feed(-1), -1);
        Due.is("a fifth digit", x.law(), -104);
        Due.is("a byte again", x.feed('7'), 1);
    }

    private static void lawEmptiesTheTape() {
        ThreshedSound x = new ThreshedSound();
        Due.is("a text", Due.lay(x, "5"), 1);
        Due.is("empty", x.count(2), 0);
        Due.is("no text", Due.lay(x, "5+"), -102);
        Due.is("empty", x.count(2), 0);
        Due.is("the first byte again", x.feed('5'), 1);
    }

    private static void anEmptyTextEndsTooEarly() {
        ThreshedSound x = new ThreshedSound();
        Due.is("no byte", x.law(), -100);
        Due.is("one byte", Due.lay(x, "t"), 1);
        Due.is("no byte again", x.law(), -100);
        x.man(0);
        x.mend(0, 0, 6);
        Due.is("the law stays", x.strike(0), 6);
    }

    private static void whatGoesOnAtTheStart() {
        goesOn("", ONES);
        goesOn("t;", ONES);
        goesOn("t?", ONES);
        goesOn("t?t;", ONES);
        for (String sign : "+ - * / % < = > & |".split(" ")) {
            goesOn("t" + sign, ONES);
        }
    }

    private static void whatGoesOnBehindOnes() {
        for (String name : "t c r m a b".split(" ")) {
            goesOn(name, JOINING + COMPARING + LINE_SIGNS);
        }
        goesOn("!t", JOINING + COMPARING + LINE_SIGNS);
        goesOn("-t", JOINING + COMPARING + LINE_SIGNS);
        goesOn("(t)", JOINING + COMPARING + LINE_SIGNS);
        goesOn("t+t", JOINING + COMPARING + LINE_SIGNS);
        goesOn("t*t-t/t%t", JOINING + COMPARING + LINE_SIGNS);
    }

    private static void numbersHave1To4Digits() {
        String behind = JOINING + COMPARING + LINE_SIGNS;
        goesOn("9", "0123456789" + behind);
        goesOn("99", "0123456789" + behind);
        goesOn("000", "0123456789" + behind);
        goesOn("9999", behind);
        goesOn("0000", behind);
        goesOn("t+1234", behind);
        goesOn("-123", "0123456789" + behind);
        goesOn("-1234", behind);
        loud("0009", 9);
        loud("9999=10000-1", -1);
        loud("9999=9998+1", 1);
        loud("0010-1", 9);
    }

    private static void oneComparisonInEach() {
        for (String sign : "< = >".split(" ")) {
            goesOn("t" + sign + "t", JOINING + LINE_SIGNS);
            goesOn("t+t" + sign + "t*t", JOINING + LINE_SIGNS);
            goesOn("t" + sign + "t&t", JOINING + COMPARING + LINE_SIGNS);
            goesOn("t" + sign + "t|t", JOINING + COMPARING + LINE_SIGNS);
            goesOn("t" + sign + "t&t" + sign + "t", JOINING + LINE_SIGNS);
            goesOn("t" + sign + "t?t", JOINING + COMPARING + ";");
            goesOn("t" + sign + "t;t", JOINING + COMPARING + LINE_SIGNS);
            goesOn("(t" + sign + "t)", JOINING + COMPARING + LINE_SIGNS);
            goesOn("t" + sign + "(t" + sign + "t)", JOINING + LINE_SIGNS);
            goesOn("t" + sign + "(t", JOINING + COMPARING + ")");
        }
    }

    private static void eachLevelBindsCloser() {
        loud("1|1&0", 1);
        loud("0&1|1", 1);
        loud("(1|1)&0", 0);
        loud("1&2<1", 0);
        loud("2<1&1", 0);
        loud("1&(2<1)", 0);
        loud("(1&2)<2", 1);
        loud("1+1<1", 0);
        loud("1<1+1", 1);
        loud("1+(1<1)", 1);
        loud("1+2*3", 7);
        loud("2*3+1", 7);
        loud("(1+2)*3", 9);
        loud("!1+1", 1);
        loud("!(1-1)", 1);
        loud("-1+3", 2);
        loud("-2*2+9", 5);
        loud("!0*3", 3);
    }

    private static void noneOneOrManyJoined() {
        loud("7-1-1", 5);
        loud("8/2/2", 2);
        loud("2*2*2", 8);
        loud("9%5%3", 1);
        loud("9-3+2", 8);
        loud("8/3*3", 6);
        loud("7*2%5", 4);
        loud("0|0|0|2", 1);
        loud("0|0|0|0", 0);
        loud("3&3&3&3", 1);
        loud("3&3&0&3", 0);
        loud("1<2&2<3&3<4", 1);
        loud("1<2|2<1|3<4", 1);
        loud("1<2&2<1&3<4", 0);
    }

    private static void oneQuestionInALine() {
        goesOn("t?t", JOINING + COMPARING + ";");
        goesOn("t?t+t", JOINING + COMPARING + ";");
        goesOn("t?t;t", JOINING + COMPARING + LINE_SIGNS);
        goesOn("t;t", JOINING + COMPARING + LINE_SIGNS);
        goesOn("t;t?t", JOINING + COMPARING + ";");
    }

    private static void whatGoesOnInParentheses() {
        goesOn("(", ONES);
        goesOn("(t", JOINING + COMPARING + ")");
        goesOn("(t<t", JOINING + ")");
        goesOn("((t)", JOINING + COMPARING + ")");
        goesOn("((t)<t", JOINING + ")");
        goesOn("t?(t", JOINING + COMPARING + ")");
        goesOn("!(t", JOINING + COMPARING + ")");
        goesOn("(1234", JOINING + COMPARING + ")");
    }

    private static void sixSignsAreOpenAtMost() {
        for (String signs : "((((( !!!!! ----- (!-(! -!(-! !(-!(".split(" ")) {
            goesOn(signs, ONES);
            for (String sixth : "( ! -".split(" ")) {
                goesOn(signs + sixth, PLAIN_ONES);
            }
        }
        goesOn("t+((((((", PLAIN_ONES);
        goesOn("t;------", PLAIN_ONES);
        goesOn("t?!!!!!!", PLAIN_ONES);
        loud("((((((8))))))", 8);
        loud("------8", 8);
        loud("!!!!!!8", 1);
        loud("!-(!-(8))+7", 8);
    }

    private static void closedSignsAreNotOpen() {
        goesOn("((((((t", JOINING + COMPARING + ")");
        goesOn("((((((t+", PLAIN_ONES);
        goesOn("((((((t)", JOINING + COMPARING + ")");
        goesOn("((((((t)+", ONES);
        goesOn("((((((t)+(", PLAIN_ONES);
        goesOn("((((((t)+!", PLAIN_ONES);
        goesOn("((((((t))))))", JOINING + COMPARING + LINE_SIGNS);
        goesOn("((((((t))))))+(((((", ONES);
        goesOn("((((((t))))))+((((((", PLAIN_ONES);
        goesOn("!!!!!!t+!!!!!", ONES);
        goesOn("!!!!!!t+!!!!!!", PLAIN_ONES);
        goesOn("------t*-----", ONES);
        goesOn("------t*------", PLAIN_ONES);
        goesOn("(((((!t", JOINING + COMPARING + ")");
        goesOn("(((((!t+", ONES);
        goesOn("!(!(!(t", JOINING + COMPARING + ")");
        goesOn("!(!(!(t)", JOINING + COMPARING + ")");
        goesOn("!(!(!(t)+", ONES);
        goesOn("!(!(!(t)+!", ONES);
        goesOn("!(!(!(t)+!(", PLAIN_ONES);
        loud("((((((1))))))+((((((7))))))", 8);
    }

    private static void theMinusBetweenIsNotOpen() {
        goesOn("t------", ONES);
        goesOn("t-------", PLAIN_ONES);
        goesOn("((((((t-", PLAIN_ONES);
        goesOn("1-1-1-1-1-1-1-", ONES);
        loud("9-1-1-1-1-1-1-1", 2);
    }

    private static void theLengthIfItEndsTooEarly() {
        String[] texts = {"(", "t+", "t<", "t?", "t;", "(t", "((t)", "!", "-", "t?t;", "0?0;0?", "!!!!!!", "t&", "t|"};
        for (String text : texts) {
            Due.is("law " + text, Due.lay(new ThreshedSound(), text), -100 - text.length());
        }
        String nearlyFull = "t+".repeat(59);
        Due.is("119 bytes", Due.lay(new ThreshedSound(), nearlyFull + "("), -219);
        Due.is("120 bytes", Due.lay(new ThreshedSound(), nearlyFull + "(("), -220);
        Due.is("120 bytes", Due.lay(new ThreshedSound(), nearlyFull + "t+"), -220);
    }

    private static void textsOf120Bytes() {
        String nearlyFull = "t+".repeat(58);
        Due.is("the 120th is a fault", Due.lay(new ThreshedSound(), nearlyFull + "t+t)"), -219);
        Due.is("the 119th is a fault", Due.lay(new ThreshedSound(), nearlyFull + "t+)t"), -218);
        Due.is("all are", Due.lay(new ThreshedSound(), ")".repeat(120)), -100);
        Due.is("the seventh is", Due.lay(new ThreshedSound(), "(".repeat(120)), -106);
        loud(nearlyFull + "t+7", 7);
        loud(nearlyFull + "0+10", 9);
        loud(nearlyFull + "1234", 9);
        loud("0004" + "+t".repeat(58), 4);
        loud("0|".repeat(59) + "!0", 1);
        loud("-(-(-(3" + "+0".repeat(53) + ")))+9", 6);
    }

    private static void linesOf120Bytes() {
        loud("0;".repeat(59) + "7", 0);
        loud("0?1;".repeat(29) + "0007", 7);
        loud("0?1;".repeat(29) + "0?77", 0);
        loud("0?1;".repeat(29) + "1?77", 9);
        Due.is("the last lacks", Due.lay(new ThreshedSound(), "0?1;".repeat(30)), -220);
    }

    private static void theFirstLineThatCounts() {
        loud("3", 3);
        loud("3;4", 3);
        loud("0;4", 0);
        loud("0?3", 0);
        loud("0?3;0?4", 0);
        loud("0?3;4", 4);
        loud("0?3;0?4;5;6", 5);
        loud("1?3;4", 3);
        loud("7?3;4", 3);
        loud("-1?3;4", 3);
        loud("1?0;4", 0);
        loud("0?3;1?4;1?5", 4);
    }

    private static void intsWrap() {
        loud("8192*8192*32<0", 1);
        loud("8192*8192*31+8192*8191+8191>0", 1);
        loud("8192*8192*31+8192*8191+8191+1<0", 1);
        loud("8192*8192*32-1>0", 1);
        loud("8192*8192*32-1=8192*8192*31+8192*8191+8191", 1);
        loud("-(8192*8192*32)=8192*8192*32", 1);
        loud("-(8192*8192*32-1)<0", 1);
        loud("8192*8192*32/-1<0", 1);
        loud("8192*8192*32%-1=0", 1);
        loud("8192*8192*32*-1<0", 1);
        loud("8192*8192*64=0", 1);
        loud("9999*9999*9999*9999*9999<0", 9999 * 9999 * 9999 * 9999 * 9999 < 0 ? 1 : 0);
        loud("8192*8192*32", 0);
        loud("8192*8192*32-1", 9);
        loud("8192*8192*32?5;6", 5);
    }

    private static void divisionIsTowardZeroAndByZeroGivesZero() {
        loud("7/2", 3);
        loud("-7/2+9", 6);
        loud("7/-2+9", 6);
        loud("-7/-2", 3);
        loud("7%3", 1);
        loud("-7%3+9", 8);
        loud("7%-3", 1);
        loud("-7%-3+9", 8);
        loud("1/2", 0);
        loud("-1/2+5", 5);
        loud("7/0", 0);
        loud("7/0+4", 4);
        loud("7%0", 0);
        loud("7%0+4", 4);
        loud("0/0+4", 4);
        loud("0%0+4", 4);
        loud("-7/0+4", 4);
        loud("7/(3-3)*5+4", 4);
        loud("8192*8192*32/0+4", 4);
        loud("8192*8192*32%0+4", 4);
    }

    private static void truthIsOneOrZero() {
        loud("5|7", 1);
        loud("0|7", 1);
        loud("5|0", 1);
        loud("-5|0", 1);
        loud("0|0", 0);
        loud("5&7", 1);
        loud("4&3", 1);
        loud("0&7", 0);
        loud("5&0", 0);
        loud("0&0", 0);
        loud("2<3", 1);
        loud("3<3", 0);
        loud("4<3", 0);
        loud("2>3", 0);
        loud("3>3", 0);
        loud("4>3", 1);
        loud("2=3", 0);
        loud("3=3", 1);
        loud("4=3", 0);
        loud("!0", 1);
        loud("!1", 0);
        loud("!5", 0);
        loud("!-5", 0);
        loud("!!5", 1);
        loud("-1<0", 1);
        loud("8192*8192*32<8192*8192*32-1", 1);
    }

    private static void namesAtTheirBounds() {
        loud("t", 0, 0, 0, 0, 12, 0);
        loud("t", 7, 7, 0, 0, 12, 0);
        loud("c", 0, 0, 0, 0, 12, 0);
        loud("c", 9, 0, 9, 0, 12, 0);
        loud("r", 0, 0, 0, 0, 12, 0);
        loud("r-11", 9, 0, 0, 20, 12, 0);
        loud("r-12", 8, 0, 0, 20, 12, 0);
        loud("m", 0, 0, 0, 0, 12, 0);
        loud("m", 3, 0, 0, 0, 12, 3);
        loud("a", 0, 0, 0, 0, 0, 0);
        loud("a-4", 8, 0, 0, 0, 12, 0);
        loud("a-4", 7, 0, 0, 0, 11, 3);
        loud("b", 0, 0, 0, 0, 12, 0);
        loud("b", 3, 0, 0, 0, 12, 3);
    }

    private static void cornAsItIsStruck() {
        ThreshedSound x = new ThreshedSound();
        x.man(0);
        x.mend(0, 1, 9);
        Due.is("law", Due.lay(x, "c"), 1);
        for (int corn : new int[] {9, 8, 7, 6, 5, 4, 3, 2, 1, 0, 0}) {
            Due.is("corn ahead of the stroke", x.strike(0), corn);
        }
    }

    private static void theBeatGoesRoundAtFour() {
        ThreshedSound x = new ThreshedSound();
        x.man(0);
        x.man(0);
        x.man(0);
        Due.is("law", Due.lay(x, "b"), 1);
        for (int beat = 0; beat < 13; beat++) {
            Due.is("beat " + beat, x.strike(0), beat % 4);
        }
        Due.is("law", Due.lay(x, "m+1"), 1);
        for (int beat = 13; beat < 20; beat++) {
            Due.is("the man of beat " + beat, x.strike(0), beat % 3 + 1);
        }
    }

    private static void loudIsHeldWithin0To9() {
        loud("0", 0);
        loud("-1", 0);
        loud("0-9999", 0);
        loud("1", 1);
        loud("8", 8);
        loud("9", 9);
        loud("10", 9);
        loud("9999", 9);
    }

    private static void heardIsAboveZero() {
        for (int loud = -1; loud <= 10; loud++) {
            ThreshedSound x = new ThreshedSound();
            x.man(0);
            x.mend(0, 0, 5);
            Due.is("law", Due.lay(x, loud < 0 ? "-1" : String.valueOf(loud)), 1);
            Due.bytes(x, 0, 0);
            Due.is("heard in thought by " + loud, x.plan(0, 1), loud > 0 ? 1 : 0);
            Due.is("strike by " + loud, x.strike(0), Math.max(0, Math.min(9, loud)));
            Due.is("heard by " + loud, x.led(2), loud > 0 ? 1 : 0);
            Due.is("the latest tone by " + loud, x.led(10), loud > 0 ? 5 : 8);
        }
    }

    private static void withoutATextTheRoadIsCutByTwo() {
        int[] due = {9, 9, 8, 8, 7, 7, 6, 6, 5, 5, 4, 4, 3, 3, 2, 2, 1, 1, 0, 0, 0};
        for (int road = 0; road <= 20; road++) {
            Due.is("road " + road, plainly(road, 0), due[road]);
        }
    }

    private static void withoutATextCornIsCutByThree() {
        int[] due = {9, 9, 9, 8, 8, 8, 7, 7, 7, 6};
        for (int corn = 0; corn <= 9; corn++) {
            Due.is("corn " + corn, plainly(0, corn), due[corn]);
        }
        Due.is("1", plainly(11, 9), 1);
        Due.is("0", plainly(12, 9), 0);
        Due.is("held at 0", plainly(14, 9), 0);
        Due.is("held at 0", plainly(20, 9), 0);
        Due.is("1", plainly(16, 2), 1);
        Due.is("0", plainly(16, 3), 0);
    }

    private static int plainly(int road, int corn) {
        ThreshedSound x = new ThreshedSound();
        x.man(0);
        x.mend(0, 6, road);
        x.mend(0, 1, corn);
        return x.strike(0);
    }

    private static void aFaultLeavesTheLaw() {
        ThreshedSound x = new ThreshedSound();
        x.man(0);
        Due.is("a fault ahead of any law", Due.lay(x, "5+"), -102);
        Due.is("as without a text", x.strike(0), 9);
        Due.is("law", Due.lay(x, "5"), 1);
        Due.is("by it", x.strike(0), 5);
        Due.is("a fault at the end", Due.lay(x, "6;7;"), -104);
        Due.is("by the old one", x.strike(0), 5);
        Due.is("a fault at the start", Due.lay(x, "?6"), -100);
        Due.is("by the old one", x.strike(0), 5);
        Due.is("another", Due.lay(x, "6;7"), 1);
        Due.is("by the new one", x.strike(0), 6);
        Due.is("a shorter one", Due.lay(x, "0?2"), 1);
        Due.is("by it alone", x.strike(0), 0);
    }

    private static void aLawIsNoChangeAndInNoImage() {
        ThreshedSound x = new ThreshedSound();
        x.man(0);
        x.image();
        Due.is("law", Due.lay(x, "5"), 1);
        Due.is("no change", x.count(3), 0);
        Due.is("nothing to undo", x.undo(), -5);
        Due.is("back()", x.back(), 0);
        Due.is("the law stays", x.strike(0), 5);
        x.feed('3');
        x.back();
        Due.is("the tape stays", x.count(2), 1);
    }

    /** Each of the 256 bytes behind a text that is fine so far. */
    private static void goesOn(String text, String letters) {
        for (int letter = 0; letter < 256; letter++) {
            ThreshedSound x = new ThreshedSound();
            for (int i = 0; i < text.length(); i++) {
                x.feed(text.charAt(i));
            }
            x.feed(letter);
            int answer = x.law();
            boolean fits = letters.indexOf(letter) >= 0;
            boolean went = answer == 1 || answer == -100 - text.length() - 1;
            Due.is(text + " and byte " + letter + ": law", fits && went ? 0 : answer, fits ? 0 : -100 - text.length());
        }
    }

    /** On an empty PLANK of TONE 0; -1: it is no TEXT. */
    private static void loud(String law, int want) {
        if (want < 0) {
            Due.is("law " + law, Due.lay(new ThreshedSound(), law) < -99 ? 1 : 0, 1);
        } else {
            loud(law, want, 0, 0, 0, 12, 0);
        }
    }

    private static void loud(String law, int want, int tone, int corn, int road, int arm, int beat) {
        ThreshedSound x = new ThreshedSound();
        for (int man = 0; man < 4; man++) {
            x.man(0);
            x.mend(man, 4, arm);
        }
        x.mend(0, 0, tone);
        x.mend(0, 1, corn);
        x.mend(0, 6, road);
        Due.is("law " + law, Due.lay(x, law), 1);
        for (int i = 0; i < beat; i++) {
            x.strike(16);
        }
        Due.is("loud by " + law, x.strike(0), want);
    }
}
