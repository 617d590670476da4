/** The bounds of bodies, acts and the trace: a sentence of the document a test (promises 35 to 37). */
public final class ActsBoundsTest {
    private static final int MIN = Integer.MIN_VALUE;
    private static final int MAX = Integer.MAX_VALUE;
    private static final int FALLS = 0;
    private static final int SOUNDS = 1;
    private static final int WAITS = 2;
    private static final int TELLS = 3;

    public static void main(String[] args) {
        kindsAre0To7();
        fiftyBodiesAndNoMore();
        bodiesThatAreThere();
        actsAre0To3();
        noTraceOfWhatIsNot();
        traceFromTheFirstToTheLast();
        traceOfTheLatestActAlone();
        traceOfTheLongestAct();
        bodiesOfFalls();
        bodiesOfSounds();
        bodiesOfWaits();
        bodiesOfTells();
        xWraps();
        nIsItsNumber();
        Due.end();
    }

    private static ThreshedSound oneOfEach() {
        ThreshedSound x = new ThreshedSound();
        for (int kind = 0; kind < 8; kind++) {
            x.body(kind);
        }
        return x;
    }

    private static void kindsAre0To7() {
        ThreshedSound x = new ThreshedSound();
        for (int kind : new int[] {-1, 8, MIN, MAX}) {
            Due.is("body(" + kind + ")", x.body(kind), -1);
        }
        Due.is("none came", x.count(4), 0);
        Due.is("body(0)", x.body(0), 0);
        Due.is("body(7)", x.body(7), 1);
        Due.is("two came", x.count(4), 2);
    }

    private static void fiftyBodiesAndNoMore() {
        ThreshedSound x = new ThreshedSound();
        for (int i = 0; i < 50; i++) {
            Due.is("body", x.body(i % 8), i);
            Due.is("bodies", x.count(4), i + 1);
        }
        Due.is("a 51st", x.body(0), -3);
        Due.is("a 51st of no kind: BAD first", x.body(8), -1);
        Due.is("a 51st of no kind: BAD first", x.body(-1), -1);
        Due.is("bodies", x.count(4), 50);
        Due.is("the last", x.act(49, FALLS, 0), 52);
        Due.is("none behind it", x.act(50, FALLS, 0), 0);
        Due.is("no trace", x.count(5), 0);
    }

    private static void bodiesThatAreThere() {
        ThreshedSound x = new ThreshedSound();
        Due.is("none yet", x.act(0, FALLS, 7), 0);
        Due.is("no trace", x.count(5), 0);
        x.body(0);
        Due.is("one", x.act(0, FALLS, 7), 7);
        Due.is("a trace", x.count(5), 1);
        for (int body : new int[] {-1, 1, 50, MIN, MAX}) {
            Due.is("body " + body, x.act(body, FALLS, 7), 0);
            Due.is("no trace", x.count(5), 0);
        }
    }

    private static void actsAre0To3() {
        ThreshedSound x = new ThreshedSound();
        x.body(0);
        x.body(0);
        int[] due = {8, 16, 6, 16};
        for (int act = 0; act < 4; act++) {
            Due.is("act " + act, x.act(1, act, 7), due[act]);
        }
        for (int act : new int[] {-1, 4, MIN, MAX}) {
            Due.is("act " + act, x.act(1, act, 7), 0);
        }
    }

    private static void noTraceOfWhatIsNot() {
        ThreshedSound x = new ThreshedSound();
        x.body(0);
        for (int[] wrong : new int[][] {{-1, 0}, {1, 0}, {0, -1}, {0, 4}}) {
            x.act(0, TELLS, 1);
            Due.is("a trace", x.count(5), 4);
            Due.is("no such act", x.act(wrong[0], wrong[1], 1), 0);
            Due.is("no trace", x.count(5), 0);
            for (int i = 0; i < 5; i++) {
                Due.is("no trace", x.trace(i), -1);
            }
        }
        Due.is("another body changes it not", x.body(0), 1);
        Due.is("no trace", x.count(5), 0);
    }

    private static void traceFromTheFirstToTheLast() {
        ThreshedSound x = new ThreshedSound();
        Due.is("no act yet", x.trace(0), -1);
        Due.is("no act yet", x.count(5), 0);
        x.body(0);
        x.act(0, SOUNDS, 1);
        Due.is("the first", x.trace(0), 10);
        Due.is("the last", x.trace(1), 1);
        for (int i : new int[] {-1, 2, 23, 24, MIN, MAX}) {
            Due.is("trace(" + i + ")", x.trace(i), -1);
        }
    }

    private static void traceOfTheLatestActAlone() {
        ThreshedSound x = oneOfEach();
        x.act(7, TELLS, 1);
        Due.is("fourteen", x.count(5), 14);
        x.act(0, FALLS, 1);
        Due.is("one", x.count(5), 1);
        Due.is("the first", x.trace(0), 1);
        Due.is("nothing of the act ahead", x.trace(1), -1);
    }

    private static void traceOfTheLongestAct() {
        ThreshedSound x = oneOfEach();
        ranIs(x, 7, TELLS, 81, 2, 80, 10, 20, 1, 50, 11, 20, 1, 50, 11, 20, 1);
    }

    /** The bodies that ran, and what they gave by hand. */
    private static void ranIs(ThreshedSound x, int body, int act, int... bodies) {
        String name = "act " + act + " of a " + body;
        x.act(body, act, 6);
        Due.is(name + ": how many", x.count(5), bodies.length);
        for (int i = 0; i < bodies.length; i++) {
            Due.is(name + ": trace(" + i + ")", x.trace(i), bodies[i]);
        }
        Due.is(name + ": no more", x.trace(bodies.length), -1);
    }

    private static void bodiesOfFalls() {
        ThreshedSound x = oneOfEach();
        ranIs(x, 0, FALLS, 1);
        ranIs(x, 1, FALLS, 20, 1);
        ranIs(x, 2, FALLS, 1);
        ranIs(x, 3, FALLS, 1);
        ranIs(x, 4, FALLS, 20, 1);
        ranIs(x, 5, FALLS, 1);
        ranIs(x, 6, FALLS, 70, 1);
        ranIs(x, 7, FALLS, 20, 1);
        int[] due = {6, 10, 8, 9, 13, 11, 24, 16};
        for (int kind = 0; kind < 8; kind++) {
            Due.is("falls of a " + kind, x.act(kind, FALLS, 6), due[kind]);
        }
    }

    private static void bodiesOfSounds() {
        ThreshedSound x = oneOfEach();
        ranIs(x, 0, SOUNDS, 10, 1);
        ranIs(x, 1, SOUNDS, 10, 20, 1);
        ranIs(x, 2, SOUNDS, 30, 10, 1);
        ranIs(x, 3, SOUNDS, 41, 30, 10, 1);
        ranIs(x, 4, SOUNDS, 10, 20, 1);
        ranIs(x, 5, SOUNDS, 41, 30, 10, 1);
        ranIs(x, 6, SOUNDS, 10, 70, 1);
        ranIs(x, 7, SOUNDS, 80, 10, 20, 1, 50, 11, 20, 1);
        int[] due = {12, 20, -16, -20, 26, -24, 48, 32 + 5 - 12};
        for (int kind = 0; kind < 8; kind++) {
            Due.is("sounds of a " + kind, x.act(kind, SOUNDS, 6), due[kind]);
        }
    }

    private static void bodiesOfWaits() {
        ThreshedSound x = oneOfEach();
        ranIs(x, 0, WAITS, 11);
        ranIs(x, 1, WAITS, 11);
        ranIs(x, 2, WAITS, 11);
        ranIs(x, 3, WAITS, 40, 11);
        ranIs(x, 4, WAITS, 50, 11, 20, 1);
        ranIs(x, 5, WAITS, 40, 11);
        ranIs(x, 6, WAITS, 11);
        ranIs(x, 7, WAITS, 50, 11, 20, 1);
        int[] due = {6, 7, 4, 15, 2 - 9, 9, 0, 1 - 12};
        for (int kind = 0; kind < 8; kind++) {
            Due.is("waits of a " + kind, x.act(kind, WAITS, 6), due[kind]);
        }
    }

    private static void bodiesOfTells() {
        ThreshedSound x = oneOfEach();
        ranIs(x, 0, TELLS, 2, 10, 1, 11);
        ranIs(x, 1, TELLS, 2, 10, 20, 1, 11);
        ranIs(x, 2, TELLS, 2, 30, 10, 1, 11);
        ranIs(x, 3, TELLS, 2, 41, 30, 10, 1, 40, 11);
        ranIs(x, 4, TELLS, 2, 10, 20, 1, 50, 11, 20, 1);
        ranIs(x, 5, TELLS, 60, 2, 41, 30, 10, 1, 40, 11);
        ranIs(x, 6, TELLS, 2, 10, 70, 1, 11);
        int[] due = {12 - 1, 20 - 0, -16 - 3, -20 - 6, 26 - (5 - 9), -24 - 12 ^ 5, 48 - 7, 25 - (6 - 12) - 1};
        for (int kind = 0; kind < 8; kind++) {
            Due.is("tells of a " + kind, x.act(kind, TELLS, 6), due[kind]);
        }
    }

    private static void xWraps() {
        ThreshedSound x = oneOfEach();
        Due.is("the greatest, and 1, and 3", x.act(1, FALLS, MAX), MIN + 3);
        Due.is("the least", x.act(0, FALLS, MIN), MIN);
        Due.is("the greatest twice", x.act(0, SOUNDS, MAX), -2);
        Due.is("the least twice", x.act(0, SOUNDS, MIN), 0);
        Due.is("a half of the ints twice", x.act(0, SOUNDS, 1 << 30), MIN);
        Due.is("the least, told anew, is itself", x.act(2, SOUNDS, (1 << 30) - 2), MIN);
        Due.is("the greatest and 1, by a NO", x.act(3, SOUNDS, MAX), -6);
        Due.is("three times the greatest", x.act(3, WAITS, MAX - 3 ^ 3), (MAX - 3) * 3);
        Due.is("the least by bits", x.act(1, WAITS, MIN), MIN + 1);
        Due.is("the least less 9", x.act(4, WAITS, MIN), MIN + 4 - 9);
    }

    private static void nIsItsNumber() {
        ThreshedSound x = new ThreshedSound();
        for (int n = 0; n < 50; n++) {
            x.body(0);
            Due.is("falls", x.act(n, FALLS, 100), 100 + n);
            Due.is("waits", x.act(n, WAITS, 100), 100 ^ n);
        }
        Due.is("the first stays the first", x.act(0, FALLS, 100), 100);
    }
}
