import java.util.Arrays;
import java.util.Random;

/** Any calls, 512 an object, each beside the model's answer (promises 1 to 44). */
public final class ModelTest {
    private static final int CALLS = 512;
    private static final int[] MOST = {7, 9, 15, 6, 12, 9, 20, 7};
    private static final String LETTERS = "tcrmab0123456789!-(()))+*/%<=>&|?;;~";
    private static final String[] LAWS = {"t", "9-c", "c<2", "t%3-1", "b=m?c-1;t>2?r;9-c*2", "a>5&c<4|b=3", "5-m*2-c",
        "!(c%3)*(t+1)", "r/5+1-(m=b)", "a-c;7", "-c?t;4", "c?;", "((t)", "12345", "!!!!!!c", "-------c"};

    private static final Calls REAL = new Calls(ThreshedSound.class);
    private static final Calls TOLD = new Calls(Model.class);

    private final int run;
    private final Random random;
    private final ThreshedSound real = new ThreshedSound();
    private final Model told = new Model();
    private int calls = 0;
    private int men = 0;
    private int sayings = 0;
    private int bodies = 0;

    private ModelTest(int run, Random random) {
        this.run = run;
        this.random = random;
    }

    public static void main(String[] args) {
        Random random = new Random(41);
        for (int run = 0; run < 4000; run++) {
            ModelTest test = new ModelTest(run, random);
            if (run % 8 != 0) {
                test.furnish();
            }
            test.callOn(run % 3);
        }
        Due.end();
    }

    /** One call of both; answers the model's. */
    private long both(String name, Object... with) {
        calls++;
        long want = TOLD.make(told, name, with);
        long got = REAL.make(real, name, with);
        if (got != want) {
            Due.is("call " + calls + " of run " + run + ": " + name + Arrays.toString(with), got, want);
        }
        return want;
    }

    private int upTo(int most) {
        return random.nextInt(most + 1);
    }

    /** Mostly least to most, at times one beyond, seldom an int far off. */
    private int near(int least, int most) {
        switch (random.nextInt(40)) {
            case 0: return least - 1;
            case 1: return most + 1;
            case 2: return random.nextInt(8) == 0 ? random.nextInt() : least;
            case 3: return random.nextInt(8) == 0 ? Integer.MIN_VALUE + upTo(2) : most;
            case 4: return random.nextInt(8) == 0 ? Integer.MAX_VALUE - upTo(2) : most;
            default: return least + random.nextInt(most - least + 1);
        }
    }

    private void furnish() {
        int tones = upTo(7);
        int corn = upTo(9);
        for (int plank = 0; plank < 16; plank++) {
            both("mend", plank, 0, upTo(tones));
            both("mend", plank, 1, random.nextInt(3) == 0 ? 0 : upTo(corn));
        }
        men = upTo(4);
        for (int man = 0; man < men; man++) {
            both("man", upTo(15));
            both("mend", man, 3, upTo(6));
            both("mend", man, 4, upTo(12));
            both("mend", man, 5, upTo(9));
        }
        tell(upTo(8), tones);
        layRow(0, 17, 60);
        layRow(1, 8, 8);
    }

    private void tell(int many, int tones) {
        both("row", 2, 0, 8);
        for (int i = 0; i < 8; i++) {
            both("put", 2, i, (long) upTo(tones));
        }
        for (int saying = 0; saying < many; saying++) {
            int n = random.nextInt(2) == 0 ? 1 + upTo(2) : 1 + upTo(5);
            sayings = (int) both("saying", 2, upTo(8 - n), n) + 1;
        }
    }

    private void layRow(int shelf, int end, int length) {
        int n = upTo(length);
        both("row", shelf, 0, n);
        for (int i = 0; i < n && i < 44; i++) {
            both("put", shelf, i, (long) random.nextInt(end));
        }
    }

    private void callOn(int leaning) {
        String[] often = leaning == 0 ? new String[] {"strike", "sow", "mend", "undo", "redo", "image", "back", "led"}
            : leaning == 1 ? new String[] {"feed", "law", "strike", "plan", "say", "nearest", "put", "likely"}
            : new String[] {"put", "row", "shift", "keep", "body", "act", "trace", "mend"};
        while (calls < CALLS) {
            boolean any = random.nextInt(2) == 0;
            String name = any ? Calls.NAMES[random.nextInt(Calls.NAMES.length)] : often[random.nextInt(often.length)];
            if (leaning == 1 && (name.equals("keep") || name.equals("row"))) {
                // what lies on the shelves stays, to be asked about
                name = "plan";
            }
            if (name.equals("law") && CALLS - calls > 30 && random.nextInt(2) == 0) {
                for (char letter : LAWS[random.nextInt(LAWS.length)].toCharArray()) {
                    both("feed", (int) letter);
                }
            }
            long answer = both(name, leaning == 1 ? asked(name) : with(name));
            men = name.equals("man") && answer >= 0 ? men + 1 : men;
            sayings = name.equals("saying") && answer >= 0 ? sayings + 1 : sayings;
            bodies = name.equals("body") && answer >= 0 ? bodies + 1 : bodies;
        }
    }

    private Object[] mended() {
        int what = near(0, 7);
        int[] numbers = {15, 15, men - 1, men - 1, men - 1, men - 1, 0, 10 * sayings - 1};
        int known = Math.max(0, Math.min(7, what));
        int number = near(0, Math.max(0, numbers[known]));
        return new Object[] {what == 7 ? number / 10 * 10 + number % 10 % 7 : number, what, near(0, MOST[known])};
    }

    /** Of the two shelves on which a plan and sounds lie. */
    private Object[] asked(String name) {
        Object[] with = with(name);
        boolean ofPlan = name.equals("plan") || name.equals("tone") || name.equals("behind");
        boolean ofSounds = name.equals("nearest") || name.equals("likely") || name.equals("slips");
        if ((ofPlan || ofSounds) && upTo(30) > 0) {
            with[0] = ofPlan ? 0 : 1;
        } else if (name.equals("put")) {
            int shelf = upTo(1);
            return new Object[] {shelf, near(0, shelf == 0 ? 30 : 5), shelf == 0 ? near(0, 16) : near(0, 7)};
        }
        return with;
    }

    private Object[] with(String name) {
        int shelf = near(0, 5);
        int saying = near(0, Math.max(0, sayings - 1));
        switch (name) {
            case "man": case "sow": return new Object[] {near(0, 15)};
            case "saying": return new Object[] {shelf, near(0, 9), near(1, 6)};
            case "mend": return mended();
            case "of": return new Object[] {mended()[0], near(0, 8)};
            case "feed": return new Object[] {random.nextInt(9) == 0 ? near(0, 255) : LETTERS.charAt(upTo(35))};
            case "reach": return new Object[] {near(0, 3)};
            case "plan": return new Object[] {shelf, near(0, 4)};
            case "tone": return new Object[] {shelf, near(0, 40)};
            case "behind": return new Object[] {shelf, near(0, 15), near(0, 1)};
            case "say": return new Object[] {saying, near(0, 5)};
            case "rows": return new Object[] {near(0, 9)};
            case "tune": case "meet": return new Object[] {near(0, 1)};
            case "nearest": return new Object[] {shelf, near(0, 1)};
            case "likely": return new Object[] {shelf, saying, near(0, 1)};
            case "slips": return new Object[] {shelf, saying};
            case "apart": return new Object[] {near(0, 10 * sayings)};
            case "begins": return new Object[] {saying};
            case "first": return new Object[] {near(0, 4)};
            case "byTurns": return new Object[] {near(0, 34), near(1, random.nextInt(20) == 0 ? 4 : 3), near(0, 1)};
            case "drawn": return new Object[] {random.nextInt(), near(1, 30), saying, near(0, 1)};
            case "strike": return new Object[] {near(0, 16)};
            case "led": return new Object[] {near(0, 15)};
            case "body": return new Object[] {near(0, 7)};
            case "act": return new Object[] {near(0, Math.max(0, bodies - 1)), near(0, 3), near(-50, 50)};
            case "trace": return new Object[] {near(0, 14)};
            case "keep": return new Object[] {shelf, near(-1, Math.max(-1, bodies - 1))};
            case "row": return new Object[] {shelf, random.nextInt(2) == 0 ? 0 : near(0, 4), near(0, 60)};
            case "put": return new Object[] {shelf, near(0, 20), random.nextInt(5) == 0 ? random.nextLong() : near(0, 16)};
            case "element": return new Object[] {shelf, near(0, 20)};
            case "shift": return new Object[] {shelf, near(0, 9), near(0, 5), near(0, 9), near(0, 9)};
            case "taken": return new Object[] {shelf, near(0, 7)};
            case "count": return new Object[] {near(0, 5)};
            default: return new Object[0];
        }
    }
}
