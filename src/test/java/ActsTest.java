import java.util.ArrayList;
import java.util.List;
import java.util.Random;

/** Flails whose acts come from above, beside classes that Java itself sorts out (promises 35 to 37). */
public final class ActsTest {
    private static final List<Integer> ran = new ArrayList<>();

    private interface Falls {
        int number();

        default int falls(int x) {
            ran.add(1);
            return x + number();
        }
    }

    private interface Tells {
        int sounds(int x);

        int waits(int x);

        default int tells(int x) {
            ran.add(2);
            return sounds(x) - waits(1);
        }
    }

    private static class Flail implements Falls, Tells {
        int number;

        @Override public int number() {
            return number;
        }

        @Override public int sounds(int x) {
            ran.add(10);
            return falls(x) * 2;
        }

        @Override public int waits(int x) {
            ran.add(11);
            return x ^ number;
        }
    }

    private static class Elm extends Flail {
        @Override public int falls(int x) {
            ran.add(20);
            return super.falls(x) + 3;
        }
    }

    private static class Plank extends Flail {
        @Override public int sounds(int x) {
            ran.add(30);
            return -super.sounds(x);
        }
    }

    private static class No extends Plank {
        @Override public int waits(int x) {
            ran.add(40);
            return super.waits(x) * 3;
        }

        @Override public int sounds(int x) {
            ran.add(41);
            return super.sounds(x + 1);
        }
    }

    private static class Barn extends Elm {
        @Override public int waits(int x) {
            ran.add(50);
            return super.waits(x) - falls(2);
        }
    }

    private static class Chaff extends No {
        @Override public int tells(int x) {
            ran.add(60);
            return super.tells(x) ^ 5;
        }
    }

    private static class Stranger extends Flail {
        @Override public int falls(int x) {
            ran.add(70);
            return super.falls(x) * 2;
        }
    }

    private static class Finlay extends Barn {
        @Override public int sounds(int x) {
            ran.add(80);
            return super.sounds(x) + waits(2);
        }

        @Override public int tells(int x) {
            ran.add(81);
            return super.tells(x) - 1;
        }
    }

    private static Flail made(int kind, int number) {
        Flail[] all = {new Flail(), new Elm(), new Plank(), new No(), new Barn(), new Chaff(), new Stranger(), new Finlay()};
        all[kind].number = number;
        return all[kind];
    }

    private static int acted(Flail flail, int act, int x) {
        ran.clear();
        switch (act) {
            case 0: return flail.falls(x);
            case 1: return flail.sounds(x);
            case 2: return flail.waits(x);
            default: return flail.tells(x);
        }
    }

    public static void main(String[] args) {
        byHand();
        bodies();
        Random random = new Random(23);
        for (int run = 0; run < 300; run++) {
            ThreshedSound x = new ThreshedSound();
            for (int i = 0; i < 50; i++) {
                int kind = (i + run) % 8;
                Due.is("body", x.body(kind), i);
                int at = random.nextInt(i + 1);
                for (int act = 0; act < 4; act++) {
                    int v = random.nextInt(3) == 0 ? random.nextInt() : random.nextInt(9);
                    Due.is("act", x.act(at, act, v), acted(made((at + run) % 8, at), act, v));
                    traceIs(x);
                }
            }
        }
        Due.end();
    }

    private static void traceIs(ThreshedSound x) {
        Due.is("count(5)", x.count(5), ran.size());
        for (int i = -1; i <= 24; i++) {
            Due.is("trace(" + i + ")", x.trace(i), i >= 0 && i < 24 && i < ran.size() ? ran.get(i) : -1);
        }
    }

    private static void byHand() {
        ThreshedSound x = new ThreshedSound();
        x.body(0);
        x.body(7);
        Due.is("falls of a FINLAY", x.act(1, 0, 5), 9);
        Due.is("trace(0)", x.trace(0), 20);
        Due.is("trace(1)", x.trace(1), 1);
        Due.is("trace(2)", x.trace(2), -1);
        Due.is("tells of a FLAIL 0", x.act(0, 3, 4), 7);
        Due.is("count(5)", x.count(5), 4);
        Due.is("no such act", x.act(0, 4, 4), 0);
        Due.is("no trace", x.count(5), 0);
        Due.is("no trace", x.trace(0), -1);
        x.act(0, 0, 0);
        Due.is("no such act", x.act(0, -1, 4), 0);
        Due.is("no trace", x.count(5), 0);
        x.act(0, 0, 0);
        Due.is("no such flail", x.act(2, 0, 4), 0);
        Due.is("no trace", x.count(5), 0);
        x.act(0, 0, 0);
        Due.is("no such flail", x.act(-1, 0, 4), 0);
        Due.is("no trace", x.trace(0), -1);
        Due.is("trace(MIN)", x.trace(Integer.MIN_VALUE), -1);
        Due.is("trace(MAX)", x.trace(Integer.MAX_VALUE), -1);
    }

    private static void bodies() {
        ThreshedSound x = new ThreshedSound();
        Due.is("body(-1)", x.body(-1), -1);
        Due.is("body(8)", x.body(8), -1);
        for (int i = 0; i < 50; i++) {
            Due.is("body", x.body(i % 8), i);
        }
        Due.is("full", x.body(0), -3);
        Due.is("body(8), full", x.body(8), -1);
        Due.is("count(4)", x.count(4), 50);
        Due.is("act of 49, a plank's child is none: ELM", x.act(49, 0, 1), 53);
    }
}
