import java.util.ArrayList;
import java.util.Arrays;
import java.util.List;
import java.util.Random;

/**
 * What is refused changes nothing, and what is asked in thought neither: two objects with like calls behind them, one
 * of them with refused calls besides, answer alike afterwards (promises 2 to 44).
 */
public final class RefusedTest {
    private static final Calls CALLS = new Calls(ThreshedSound.class);
    private static final int MOST_CALLS = 512;
    private static final int REFUSED = 60;
    private static final int PROBES = 8;
    private static final int[] EDGES = {Integer.MIN_VALUE, -2, -1, 0, 1, 2, 3, 4, 5, 6, 7, 8, 9, 10, 11, 12, 13, 15, 16, 17,
        20, 21, 30, 31, 40, 50, 59, 60, 61, 70, 80, 127, 255, 256, Integer.MAX_VALUE};
    /** Calls whose answer below 0 is a refusal, and else changes something. */
    private static final List<String> CHANGING = List.of("man", "saying", "mend", "feed", "strike", "sow", "back", "undo",
        "redo", "body", "keep", "row", "put", "shift");
    /** Calls that change something, whatever they answer. */
    private static final List<String> NEVER_REFUSED = List.of("law", "image", "act");

    private final ThreshedSound x = new ThreshedSound();
    private int calls = 0;

    public static void main(String[] args) {
        Random random = new Random(43);
        for (int state = 0; state < 4; state++) {
            for (String name : Calls.NAMES) {
                if (NEVER_REFUSED.contains(name)) {
                    continue;
                }
                List<Object[]> refused = refused(state, name, random);
                for (int from = 0; from < refused.size(); from += REFUSED) {
                    changesNothing(state, name, refused.subList(from, Math.min(refused.size(), from + REFUSED)));
                }
            }
        }
        eachIsRefusedSomewhere();
        Due.end();
    }

    /** Arguments by which a call is refused or only asks. */
    private static List<Object[]> refused(int state, String name, Random random) {
        List<Object[]> found = new ArrayList<>();
        int many = CALLS.arguments(name);
        int tries = many == 0 ? 1 : many == 1 ? EDGES.length : many == 2 ? 150 : 300;
        RefusedTest scout = null;
        for (int i = 0; i < tries; i++) {
            Object[] with = new Object[many];
            for (int k = 0; k < many; k++) {
                with[k] = many == 1 ? EDGES[i] : random.nextInt(10) < 6 ? random.nextInt(6) : EDGES[random.nextInt(EDGES.length)];
            }
            if (!CHANGING.contains(name)) {
                found.add(with);
                continue;
            }
            scout = scout == null || scout.calls > MOST_CALLS - 2 ? furnished(state) : scout;
            if (scout.make(name, with) < 0) {
                found.add(with);
            } else {
                scout = null;
            }
        }
        return found;
    }

    private static void changesNothing(int state, String name, List<Object[]> refused) {
        for (int probe = 0; probe < PROBES; probe++) {
            RefusedTest with = furnished(state);
            for (Object[] arguments : refused) {
                long answer = with.make(name, arguments);
                boolean wrong = CHANGING.contains(name) && answer >= 0;
                Due.is(name + Arrays.toString(arguments) + " refused once, then answered " + answer, wrong ? 1 : 0, 0);
            }
            long[] without = furnished(state).probed(probe);
            long[] got = with.probed(probe);
            Due.is("state " + state + ": answers behind " + name + ", probe " + probe, got.length, without.length);
            for (int i = 0; i < Math.min(got.length, without.length); i++) {
                Due.is("state " + state + ": behind " + name + ", probe " + probe + ", answer " + i, got[i], without[i]);
            }
        }
    }

    /** So that none of the calls above is looked at in vain. */
    private static void eachIsRefusedSomewhere() {
        Random random = new Random(47);
        for (String name : CHANGING) {
            int many = 0;
            for (int state = 0; state < 4; state++) {
                many += refused(state, name, random).size();
            }
            Due.is(name + " is refused at times", many > 0 ? 1 : 0, 1);
        }
    }

    private long make(String name, Object... with) {
        calls++;
        Due.is("at most 512 calls an object", calls > MOST_CALLS ? calls : 0, 0);
        return CALLS.make(x, name, with);
    }

    // ---- states

    private static RefusedTest furnished(int state) {
        RefusedTest test = new RefusedTest();
        if (state == 1) {
            test.someOfAll();
        } else if (state == 2) {
            test.allOfSome();
        } else if (state == 3) {
            test.manyChanges();
        }
        return test;
    }

    private void someOfAll() {
        for (int plank = 0; plank < 16; plank++) {
            make("mend", plank, 0, plank * 3 % 8);
        }
        make("mend", 2, 1, 9);
        make("mend", 5, 1, 1);
        make("mend", 0, 6, 3);
        make("man", 5);
        make("man", 10);
        make("mend", 1, 3, 4);
        make("mend", 0, 4, 7);
        make("mend", 1, 5, 2);
        lay(0, 0, 5, 16, 5, 16, 6, 2, 1, 11, 17, 3);
        lay(1, 0, 7, 7, 2);
        lay(2, 2, 5, -6, 70000);
        lay(3, 4, 1, 0, 1);
        make("saying", 0, 0, 1);
        make("saying", 1, 0, 3);
        make("saying", 1, 1, 2);
        tell("7-c-m+b");
        make("law");
        tell("t<");
        make("strike", 5);
        make("image");
        make("strike", 2);
        make("sow", 9);
        make("undo");
        make("undo");
        make("body", 3);
        make("body", 7);
        make("keep", 4, 1);
        make("act", 1, 3, 4);
    }

    private void allOfSome() {
        for (int man = 0; man < 4; man++) {
            make("man", man * 5);
        }
        lay(0, 0, 3, 3, 3, 3, 3, 3);
        for (int saying = 0; saying < 8; saying++) {
            make("saying", 0, 0, 1 + saying % 6);
        }
        tell("c+".repeat(59) + "ca");
        for (int i = 0; i < 50; i++) {
            make("body", i % 8);
        }
        make("keep", 5, 49);
        for (int plank = 0; plank < 16; plank++) {
            make("mend", plank, 1, 9);
        }
        make("act", 48, 1, 1);
    }

    private void manyChanges() {
        make("man", 3);
        for (int i = 0; i < 50; i++) {
            make("mend", i % 16, i % 2, 1 + i % 7);
        }
        for (int i = 0; i < 7; i++) {
            make("undo");
        }
        make("row", 0, 0, 60);
        make("row", 1, 3, 0);
        for (int i = 0; i < 5; i++) {
            make("strike", 3);
            make("strike", 16);
        }
    }

    private void lay(int shelf, int sort, long... values) {
        make("row", shelf, sort, values.length);
        for (int i = 0; i < values.length; i++) {
            make("put", shelf, i, values[i]);
        }
    }

    private void tell(String text) {
        for (int i = 0; i < text.length(); i++) {
            make("feed", (int) text.charAt(i));
        }
    }

    // ---- what the other calls answer afterwards

    private long[] probed(int probe) {
        List<Long> answers = new ArrayList<>();
        switch (probe) {
            case 0: look(answers); break;
            case 1: lookAtSayings(answers); break;
            case 2: lookAtShelves(answers); break;
            case 3: redoAndUndo(answers); break;
            case 4: layBack(answers); break;
            case 5: strikeByTheTape(answers); break;
            case 6: fill(answers); break;
            default: think(answers);
        }
        long[] all = new long[answers.size()];
        for (int i = 0; i < all.length; i++) {
            all[i] = answers.get(i);
        }
        return all;
    }

    private void look(List<Long> answers) {
        for (int what = 0; what < 16; what++) {
            answers.add(make("count", what));
            answers.add(make("led", what));
            answers.add(make("trace", what));
        }
        lookAtNumbers(answers);
    }

    private void lookAtNumbers(List<Long> answers) {
        for (int what = 0; what <= 6; what++) {
            for (int number = 0; number < (what < 2 ? 16 : what < 6 ? 4 : 1); number++) {
                answers.add(make("of", number, what));
            }
        }
    }

    private void lookAtSayings(List<Long> answers) {
        for (int saying = 0; saying < 8; saying++) {
            answers.add(make("of", saying, 8));
            for (int which = 0; which < 6; which++) {
                answers.add(make("of", 10 * saying + which, 7));
            }
        }
    }

    private void lookAtShelves(List<Long> answers) {
        for (int shelf = 0; shelf < 6; shelf++) {
            for (int k = 0; k < 8; k++) {
                answers.add(make("taken", shelf, k));
            }
            answers.add(make("plan", shelf, 0));
            for (int i = 0; i < 12; i++) {
                answers.add(make("element", shelf, i));
            }
            answers.add(make("element", shelf, 59));
            answers.add(make("shift", shelf, 0, shelf, 0, 0));
        }
    }

    private void redoAndUndo(List<Long> answers) {
        long left = 0;
        for (int i = 0; i < 41 && left >= 0; i++) {
            left = make("redo");
            answers.add(left);
        }
        lookAtNumbers(answers);
        left = 0;
        for (int i = 0; i < 41 && left >= 0; i++) {
            left = make("undo");
            answers.add(left);
        }
        lookAtNumbers(answers);
        lookAtSayings(answers);
    }

    private void layBack(List<Long> answers) {
        answers.add(make("back"));
        for (int what = 0; what < 16; what++) {
            answers.add(make("led", what));
            answers.add(make("of", what, 1));
        }
        for (int plank = 0; plank <= 16; plank++) {
            answers.add(make("strike", plank));
        }
    }

    private void strikeByTheTape(List<Long> answers) {
        for (int times = 0; times < 2; times++) {
            for (int plank = 0; plank <= 16; plank++) {
                answers.add(make("strike", plank));
            }
            if (times == 0) {
                answers.add(make("law"));
            }
        }
    }

    private void fill(List<Long> answers) {
        for (int i = 0; i < 5; i++) {
            answers.add(make("man", i));
        }
        for (int i = 0; i < 9; i++) {
            answers.add(make("saying", 0, 0, 1));
        }
        for (int i = 0; i < 51; i++) {
            answers.add(make("body", 0));
        }
        for (int i = 0; i < 121; i++) {
            answers.add(make("feed", (int) '+'));
        }
        answers.add(make("law"));
    }

    private void think(List<Long> answers) {
        for (int what = 0; what < 5; what++) {
            answers.add(make("plan", 0, what));
            answers.add(make("nearest", 1, what));
            answers.add(make("meet", what));
            answers.add(make("first", what));
            answers.add(make("tune", what));
        }
        for (String name : List.of("can", "thresh", "closest", "silent")) {
            answers.add(make(name));
        }
        for (int saying = 0; saying < 8; saying++) {
            answers.add(make("say", saying, 0));
            answers.add(make("begins", saying));
            answers.add(make("slips", 1, saying));
            answers.add(make("likely", 1, saying, 1));
            answers.add(make("drawn", 99, 9, saying, 0));
            answers.add(make("behind", 0, saying, 1));
            answers.add(make("apart", saying));
            answers.add(make("rows", saying));
        }
        answers.add(make("byTurns", 1, 4, 0));
        answers.add(make("byTurns", 10, 3, 1));
        for (int act = 0; act < 4; act++) {
            answers.add(make("act", 1, act, 9));
            answers.add(make("count", 5));
        }
    }
}
