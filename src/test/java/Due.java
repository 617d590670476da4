import java.util.Random;

/** Counts the answers that are not as due, and makes what many tests need. */
final class Due {
    private static int wrong = 0;

    private Due() {
    }

    static void is(String call, long got, long want) {
        if (got != want) {
            wrong++;
            if (wrong <= 40) {
                System.out.println(call + " answered " + got + ", due is " + want);
            }
        }
    }

    static void end() {
        System.out.println(wrong == 0 ? "all answers are as due" : wrong + " answers are not as due");
        if (wrong != 0) {
            System.exit(1);
        }
    }

    /** A ROW of bytes with just these elements. */
    static void bytes(ThreshedSound x, int shelf, int... values) {
        is("row(" + shelf + ", 0, " + values.length + ")", x.row(shelf, 0, values.length), 1);
        for (int i = 0; i < values.length; i++) {
            is("put(" + shelf + ", " + i + ")", x.put(shelf, i, values[i]), 1);
        }
    }

    /** A SAYING by way of SHELF 5. */
    static int tell(ThreshedSound x, int... tones) {
        bytes(x, 5, tones);
        return x.saying(5, 0, tones.length);
    }

    static int lay(ThreshedSound x, String law) {
        for (int i = 0; i < law.length(); i++) {
            is("feed", x.feed(law.charAt(i)), i + 1);
        }
        return x.law();
    }

    static int between(Random random, int least, int most) {
        return least + random.nextInt(most - least + 1);
    }

    /** Any floor: tones, corn, men, sayings, and at times a law. */
    static ThreshedSound anyFloor(Random random) {
        ThreshedSound x = new ThreshedSound();
        int tones = between(random, 1, 8);
        int most = between(random, 0, 9);
        for (int plank = 0; plank < 16; plank++) {
            x.mend(plank, 0, random.nextInt(tones));
            x.mend(plank, 1, between(random, 0, most));
        }
        int men = between(random, 0, 4);
        for (int man = 0; man < men; man++) {
            x.man(random.nextInt(16));
            x.mend(man, 3, between(random, 0, 6));
            x.mend(man, 4, between(random, 0, 12));
            x.mend(man, 5, between(random, 0, 9));
        }
        int sayings = between(random, 0, 8);
        for (int saying = 0; saying < sayings; saying++) {
            int[] row = new int[random.nextInt(3) == 0 ? between(random, 1, 6) : between(random, 1, 3)];
            for (int k = 0; k < row.length; k++) {
                row[k] = random.nextInt(tones);
            }
            tell(x, row);
        }
        x.mend(0, 6, random.nextInt(3) == 0 ? between(random, 0, 20) : 0);
        String[] laws = {"", "", "c<2", "t%3-1", "b=m?c-1;t>2?r;9-c*2", "a>5&c<4|b=3", "5-m*2-c", "!(c%3)*(t+1)"};
        String law = laws[random.nextInt(laws.length)];
        if (!law.isEmpty()) {
            is("law " + law, lay(x, law), 1);
        }
        return x;
    }
}
