/** Men, sayings and their numbers (promises 2 to 5 and 8). */
public final class MenTest {
    public static void main(String[] args) {
        men();
        sayings();
        sayingsInOrder();
        mend();
        reach();
        Due.end();
    }

    private static void men() {
        ThreshedSound x = new ThreshedSound();
        Due.is("man(16)", x.man(16), -1);
        Due.is("man(-1)", x.man(-1), -1);
        int[] planks = {15, 0, 0, 7};
        for (int i = 0; i < 4; i++) {
            Due.is("man", x.man(planks[i]), i);
            Due.is("plank", x.of(i, 2), planks[i]);
            Due.is("reach", x.of(i, 3), 2);
            Due.is("arm", x.of(i, 4), 12);
            Due.is("late", x.of(i, 5), 0);
        }
        Due.is("man(3)", x.man(3), -3);
        Due.is("man(16), full", x.man(16), -1);
        Due.is("count(0)", x.count(0), 4);
        Due.is("count(3): a man is no change", x.count(3), 0);
    }

    private static void sayings() {
        ThreshedSound x = new ThreshedSound();
        Due.bytes(x, 2, 0, 7, 3, 8, 1, -1, 5, 5, 5, 5, 5, 5);
        Due.is("saying(2, 0, 3)", x.saying(2, 0, 3), 0);
        Due.is("saying(2, 0, 4): 8 is no tone", x.saying(2, 0, 4), -1);
        Due.is("saying(2, 3, 1)", x.saying(2, 3, 1), -1);
        Due.is("saying(2, 4, 2): -1 is no tone", x.saying(2, 4, 2), -1);
        Due.is("saying(2, 6, 6)", x.saying(2, 6, 6), 1);
        Due.is("saying(2, 7, 6): the last lacks", x.saying(2, 7, 6), -1);
        Due.is("saying(2, 11, 1)", x.saying(2, 11, 1), 2);
        Due.is("saying(2, 12, 1)", x.saying(2, 12, 1), -1);
        Due.is("saying(2, MAX, 2)", x.saying(2, Integer.MAX_VALUE, 2), -1);
        Due.is("saying(2, MIN, 2)", x.saying(2, Integer.MIN_VALUE, 2), -1);
        int[] first = {0, 7, 3};
        for (int k = 0; k < 3; k++) {
            Due.is("of(" + k + ", 7)", x.of(k, 7), first[k]);
        }
        Due.is("of(3, 7)", x.of(3, 7), -1);
        Due.is("of(0, 8)", x.of(0, 8), 3);
        Due.is("of(1, 8)", x.of(1, 8), 6);
        Due.is("of(15, 7)", x.of(15, 7), 5);
        Due.is("of(16, 7)", x.of(16, 7), -1);
        Due.is("of(20, 7)", x.of(20, 7), 5);
        Due.is("of(30, 7)", x.of(30, 7), -1);
        Due.is("of(-1, 7)", x.of(-1, 7), -1);
        Due.is("of(3, 8)", x.of(3, 8), -1);
        Due.is("of(-1, 8)", x.of(-1, 8), -1);
        x.put(2, 0, 4);
        Due.is("a saying is not its row", x.of(0, 7), 0);
        Due.is("count(1)", x.count(1), 3);
        Due.is("count(3): a saying is no change", x.count(3), 0);
    }

    private static void sayingsInOrder() {
        ThreshedSound x = new ThreshedSound();
        Due.is("shelf 6", x.saying(6, 0, 1), -1);
        Due.is("shelf -1", x.saying(-1, 0, 1), -1);
        Due.is("n 0 on an empty shelf", x.saying(0, 0, 0), -1);
        Due.is("n 7 on an empty shelf", x.saying(0, 0, 7), -1);
        Due.is("an empty shelf, place -1", x.saying(0, -1, 1), -11);
        x.row(0, 4, 3);
        Due.is("booleans, place -1", x.saying(0, -1, 1), -12);
        x.body(0);
        x.keep(0, 0);
        Due.is("a flail", x.saying(0, 0, 1), -12);
        for (int i = 0; i < 8; i++) {
            Due.is("saying", Due.tell(x, i % 8), i);
        }
        Due.is("full", Due.tell(x, 1), -3);
        Due.is("of(70, 7)", x.of(70, 7), 7);
        Due.is("of(80, 7)", x.of(80, 7), -1);
        Due.is("of(8, 8)", x.of(8, 8), -1);
        Due.is("mend(80, 7, 1)", x.mend(80, 7, 1), -1);
        Due.is("full, and lacks", x.saying(5, 0, 2), -1);
        Due.is("full, and empty", x.saying(1, 0, 1), -11);
        Due.is("full, and no bytes", x.saying(0, 0, 1), -12);
        Due.is("count(1)", x.count(1), 8);
    }

    private static void mend() {
        ThreshedSound x = new ThreshedSound();
        x.man(3);
        Due.tell(x, 1, 2, 3);
        int[] most = {7, 9, 15, 6, 12, 9, 20, 7};
        int[] first = {0, 0, 3, 2, 12, 0, 0, 1};
        for (int what = 0; what < 8; what++) {
            Due.is("first", x.of(0, what), first[what]);
            Due.is("below", x.mend(0, what, -1), -1);
            Due.is("above", x.mend(0, what, most[what] + 1), -1);
            Due.is("kept", x.of(0, what), first[what]);
            Due.is("most", x.mend(0, what, most[what]), first[what]);
            Due.is("then", x.of(0, what), most[what]);
            Due.is("least", x.mend(0, what, 0), most[what]);
            Due.is("then", x.of(0, what), 0);
            Due.is("number -1", x.mend(-1, what, 0), -1);
            Due.is("number MIN", x.mend(Integer.MIN_VALUE, what, 0), -1);
            Due.is("number MAX", x.mend(Integer.MAX_VALUE, what, 0), -1);
            Due.is("of -1", x.of(-1, what), -1);
        }
        Due.is("plank 16", x.mend(16, 0, 1), -1);
        Due.is("man 1", x.mend(1, 4, 1), -1);
        Due.is("road 1", x.mend(1, 6, 1), -1);
        Due.is("tone 3 of a saying of 3", x.mend(3, 7, 1), -1);
        Due.is("saying 1", x.mend(10, 7, 1), -1);
        Due.is("tone 2", x.mend(2, 7, 5), 3);
        Due.is("what 8", x.mend(0, 8, 1), -1);
        Due.is("what -1", x.mend(0, -1, 1), -1);
        Due.is("of 9", x.of(0, 9), -1);
        Due.is("of -1", x.of(0, -1), -1);
    }

    private static void reach() {
        ThreshedSound x = new ThreshedSound();
        Due.is("reach(0)", x.reach(0), -1);
        Due.is("reach(-1)", x.reach(-1), -1);
        x.man(0);
        for (int plank = 0; plank < 16; plank++) {
            for (int far = 0; far <= 6; far++) {
                x.mend(0, 2, plank);
                x.mend(0, 3, far);
                int bits = 0;
                for (int px = 0; px < 4; px++) {
                    for (int py = 0; py < 4; py++) {
                        if (Math.abs(px - plank % 4) + Math.abs(py - plank / 4) <= far) {
                            bits |= 1 << 4 * py + px;
                        }
                    }
                }
                Due.is("reach of " + plank + " by " + far, x.reach(0), bits);
            }
        }
        Due.is("reach(1)", x.reach(1), -1);
    }
}
