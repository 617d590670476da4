import java.util.ArrayList;
import java.util.List;
import java.util.Random;

/** Strokes in deed, sowing, the image, changes undone (promises 28 to 34). */
public final class DeedsTest {
    public static void main(String[] args) {
        strikes();
        latest();
        sowing();
        image();
        changes();
        fortyChanges();
        anyChanges();
        anyDeeds();
        Due.end();
    }

    private static void strikes() {
        ThreshedSound x = new ThreshedSound();
        Due.is("no men", x.strike(0), -5);
        Due.is("no men, a rest", x.strike(16), -5);
        Due.is("17", x.strike(17), -1);
        Due.is("-1", x.strike(-1), -1);
        x.man(0);
        x.man(15);
        x.mend(0, 1, 7);
        x.mend(0, 6, 5);
        Due.is("9 less 2 less 2", x.strike(0), 5);
        Due.is("corn", x.of(0, 1), 6);
        Due.is("he of beat 1 can't", x.strike(0), -5);
        Due.is("no beat by it", x.led(0), 1);
        Due.is("his own", x.strike(15), 7);
        Due.is("no corn below 0", x.of(15, 1), 0);
        Due.is("he of beat 2 can't", x.strike(15), -5);
        Due.is("a rest", x.strike(16), 0);
        Due.is("beats", x.led(0), 3);
        Due.is("strokes", x.led(1), 2);
        Due.is("heard", x.led(2), 2);
        Due.is("taken", x.led(3), 1);
        Due.is("sown", x.led(4), 0);
        Due.is("17, still", x.strike(17), -1);
        x.mend(0, 6, 20);
        Due.is("too far to hear", x.strike(15), 0);
        Due.is("strokes", x.led(1), 3);
        Due.is("heard", x.led(2), 2);
        Due.is("not heard", x.led(10), 8);
        x.man(5);
        // beat 4 of three men
        Due.is("the man of beat 4", x.strike(0), -5);
        Due.is("the man of beat 4", x.strike(14), 0);
        Due.is("the man of beat 5", x.strike(5), 0);
    }

    private static void latest() {
        ThreshedSound x = new ThreshedSound();
        x.man(0);
        x.mend(0, 3, 6);
        for (int plank = 0; plank < 8; plank++) {
            x.mend(plank, 0, plank);
        }
        for (int what : new int[] {-1, 5, 6, 9, 16, 17, Integer.MAX_VALUE, Integer.MIN_VALUE}) {
            Due.is("led(" + what + ")", x.led(what), -1);
        }
        for (int k = 0; k < 6; k++) {
            Due.is("led(10 and " + k + ")", x.led(10 + k), -2);
        }
        for (int beat = 0; beat < 8; beat++) {
            x.strike(beat == 5 ? 16 : beat);
            for (int k = 0; k < 6; k++) {
                int at = beat - k;
                Due.is("led(10 and " + k + ")", x.led(10 + k), at < 0 ? -2 : at == 5 ? 8 : at);
            }
        }
    }

    private static void sowing() {
        ThreshedSound x = new ThreshedSound();
        Due.is("sow(16)", x.sow(16), -1);
        Due.is("sow(-1)", x.sow(-1), -1);
        for (int i = 1; i <= 11; i++) {
            Due.is("sow(15)", x.sow(15), Math.min(i, 9));
            Due.is("sown", x.led(4), i);
        }
        Due.is("corn", x.of(15, 1), 9);
        Due.is("no beat", x.led(0), 0);
        Due.is("no change", x.count(3), 0);
    }

    private static void image() {
        ThreshedSound x = new ThreshedSound();
        Due.is("none", x.back(), -5);
        x.man(0);
        x.mend(0, 0, 3);
        x.mend(0, 1, 5);
        x.strike(0);
        Due.is("image()", x.image(), 1);
        x.mend(0, 0, 6);
        x.mend(0, 6, 4);
        x.strike(0);
        x.strike(16);
        x.sow(9);
        Due.is("back()", x.back(), 1);
        Due.is("corn", x.of(0, 1), 4);
        Due.is("corn", x.of(9, 1), 0);
        Due.is("strokes", x.led(1), 1);
        Due.is("heard", x.led(2), 1);
        Due.is("taken", x.led(3), 1);
        Due.is("sown", x.led(4), 0);
        Due.is("latest", x.led(10), 3);
        Due.is("latest", x.led(11), -2);
        Due.is("a tone is not kept", x.of(0, 0), 6);
        Due.is("the road is not kept", x.of(0, 6), 4);
        Due.is("changes stay", x.count(3), 4);
        x.strike(0);
        Due.is("back() again", x.back(), 1);
        x.strike(0);
        Due.is("a newer image", x.image(), 2);
        x.strike(0);
        Due.is("back()", x.back(), 2);
        Due.is("corn", x.of(0, 1), 3);
    }

    private static void changes() {
        ThreshedSound x = new ThreshedSound();
        Due.is("undo()", x.undo(), -5);
        Due.is("redo()", x.redo(), -5);
        x.mend(0, 1, 5);
        x.mend(0, 1, 5);
        Due.is("the same number is none", x.count(3), 1);
        x.mend(0, 1, 7);
        x.mend(3, 0, 2);
        x.mend(3, 0, 9);
        Due.is("a refusal is none", x.count(3), 3);
        Due.is("undo()", x.undo(), 2);
        Due.is("tone", x.of(3, 0), 0);
        Due.is("undo()", x.undo(), 1);
        Due.is("corn", x.of(0, 1), 5);
        Due.is("redo()", x.redo(), 1);
        Due.is("corn", x.of(0, 1), 7);
        Due.is("count(3)", x.count(3), 2);
        x.mend(0, 1, 7);
        x.sow(0);
        Due.is("neither the same number nor a deed came behind", x.redo(), 0);
        Due.is("tone", x.of(3, 0), 2);
        Due.is("redo()", x.redo(), -5);
        Due.is("undo()", x.undo(), 2);
        x.mend(0, 6, 3);
        Due.is("another came behind", x.redo(), -5);
        Due.is("undo()", x.undo(), 2);
        Due.is("undo()", x.undo(), 1);
        Due.is("corn as ahead of that change", x.of(0, 1), 5);
        x.sow(0);
        Due.is("undo()", x.undo(), 0);
        Due.is("corn", x.of(0, 1), 0);
        Due.is("undo()", x.undo(), -5);
        Due.is("redo()", x.redo(), 2);
        Due.is("corn", x.of(0, 1), 5);
        Due.is("redo()", x.redo(), 1);
        Due.is("redo()", x.redo(), 0);
        Due.is("road", x.of(0, 6), 3);
    }

    private static void fortyChanges() {
        ThreshedSound x = new ThreshedSound();
        for (int i = 1; i <= 45; i++) {
            x.mend(0, 6, i % 21);
            Due.is("count(3)", x.count(3), Math.min(i, 40));
        }
        int at = x.of(0, 6);
        for (int left = 39; left >= 0; left--) {
            Due.is("undo()", x.undo(), left);
        }
        Due.is("undo()", x.undo(), -5);
        Due.is("the five first stay", x.of(0, 6), 5);
        for (int left = 39; left >= 0; left--) {
            Due.is("redo()", x.redo(), left);
        }
        Due.is("redo()", x.redo(), -5);
        Due.is("all again", x.of(0, 6), at);
    }

    /** Against a list of changes that nothing is thrown out of but by its length. */
    private static void anyChanges() {
        Random random = new Random(17);
        for (int run = 0; run < 400; run++) {
            ThreshedSound x = new ThreshedSound();
            x.man(random.nextInt(16));
            Due.tell(x, 1, 2, 3);
            List<int[]> done = new ArrayList<>();
            List<int[]> again = new ArrayList<>();
            for (int call = 0; call < 160; call++) {
                int which = random.nextInt(run % 2 == 0 ? 10 : 4);
                if (which == 0) {
                    Due.is("undo", x.undo(), done.isEmpty() ? -5 : done.size() - 1);
                    move(x, done, again, 2);
                } else if (which == 1) {
                    Due.is("redo", x.redo(), again.isEmpty() ? -5 : again.size() - 1);
                    move(x, again, done, 3);
                } else {
                    int number = random.nextInt(random.nextInt(9) == 0 ? 80 : 3);
                    int what = random.nextInt(8);
                    int v = random.nextInt(8);
                    int was = x.mend(number, what, v);
                    if (was >= 0 && was != v) {
                        done.add(new int[] {number, what, was, v});
                        again.clear();
                        if (done.size() > 40) {
                            done.remove(0);
                        }
                    }
                }
                Due.is("count(3)", x.count(3), done.size());
            }
        }
    }

    private static void move(ThreshedSound x, List<int[]> from, List<int[]> to, int side) {
        if (!from.isEmpty()) {
            int[] change = from.remove(from.size() - 1);
            to.add(change);
            Due.is("of", x.of(change[0], change[1]), change[side]);
        }
    }

    /** Deeds led by hand beside those that are led. */
    private static void anyDeeds() {
        Random random = new Random(19);
        for (int run = 0; run < 1500; run++) {
            ThreshedSound x = Due.anyFloor(random);
            int[] led = new int[5];
            List<Integer> heard = new ArrayList<>();
            for (int call = 0; call < 20 && x.count(0) > 0; call++) {
                int plank = random.nextInt(17);
                if (plank < 16 && random.nextInt(6) == 0) {
                    Due.is("sow", x.sow(plank), x.of(plank, 1));
                    led[4]++;
                    continue;
                }
                int man = led[0] % x.count(0);
                int corn = plank == 16 ? 0 : x.of(plank, 1);
                boolean can = plank == 16 || (x.reach(man) >> plank & 1) == 1;
                int loud = x.strike(plank);
                Due.is("strike", loud >= 0 ? 1 : loud, can ? 1 : -5);
                if (can) {
                    led[0]++;
                    led[1] += plank == 16 ? 0 : 1;
                    led[2] += loud > 0 ? 1 : 0;
                    led[3] += corn > 0 ? 1 : 0;
                    heard.add(0, loud > 0 ? x.of(plank, 0) : 8);
                    Due.is("corn", plank == 16 ? 0 : x.of(plank, 1), Math.max(0, corn - 1));
                }
                for (int what = 0; what < 5; what++) {
                    Due.is("led(" + what + ")", x.led(what), led[what]);
                }
                for (int k = 0; k < 6; k++) {
                    Due.is("led(10 and " + k + ")", x.led(10 + k), k < heard.size() ? heard.get(k) : -2);
                }
            }
        }
    }
}
