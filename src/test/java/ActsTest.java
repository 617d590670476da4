import java.util.Random;

/** Flails whose acts come from above, beside classes that Java itself sorts out (promises 35 to 37). */
public final class ActsTest {
    public static void main(String[] args) {
        byHand();
        bodies();
        Random random = new Random(23);
        for (int run = 0; run < 3000; run++) {
            anyActs(run, random);
        }
        Due.end();
    }

    private static void anyActs(int run, Random random) {
        ThreshedSound x = new ThreshedSound();
        for (int i = 0; i < 50; i++) {
            Due.is("body", x.body((i + run) % 8), i);
        }
        for (int times = 0; times < 16; times++) {
            int at = random.nextInt(50);
            int act = random.nextInt(4);
            int v = random.nextInt(3) == 0 ? random.nextInt() : random.nextInt(9);
            Due.is("act", x.act(at, act, v), JavaFlails.acted(JavaFlails.made((at + run) % 8, at), act, v));
            traceIs(x);
        }
    }

    private static void traceIs(ThreshedSound x) {
        Due.is("count(5)", x.count(5), JavaFlails.RAN.size());
        for (int i = -1; i <= 24; i++) {
            Due.is("trace(" + i + ")", x.trace(i), i >= 0 && i < 24 && i < JavaFlails.RAN.size() ? JavaFlails.RAN.get(i) : -1);
        }
    }

    private static void byHand() {
        ThreshedSound x = new ThreshedSound();
        x.body(0);
        x.body(7);
        Due.is("falls of a FINLAY", x.act(1, 0, 5), 9);
        Due.is("trace(0)", x.trace(0), 20);
        Due.is("trace(1)", x.trace(1), 1);
        Due.is("trace(2)", x.trace(2), -1);
        Due.is("tells of a FLAIL 0", x.act(0, 3, 4), 7);
        Due.is("count(5)", x.count(5), 4);
        Due.is("no such act", x.act(0, 4, 4), 0);
        Due.is("no trace", x.count(5), 0);
        Due.is("no trace", x.trace(0), -1);
        x.act(0, 0, 0);
        Due.is("no such act", x.act(0, -1, 4), 0);
        Due.is("no trace", x.count(5), 0);
        x.act(0, 0, 0);
        Due.is("no such flail", x.act(2, 0, 4), 0);
        Due.is("no trace", x.count(5), 0);
        x.act(0, 0, 0);
        Due.is("no such flail", x.act(-1, 0, 4), 0);
        Due.is("no trace", x.trace(0), -1);
        Due.is("trace(MIN)", x.trace(Integer.MIN_VALUE), -1);
        Due.is("trace(MAX)", x.trace(Integer.MAX_VALUE), -1);
    }

    private static void bodies() {
        ThreshedSound x = new ThreshedSound();
        Due.is("body(-1)", x.body(-1), -1);
        Due.is("body(8)", x.body(8), -1);
        for (int i = 0; i < 50; i++) {
            Due.is("body", x.body(i % 8), i);
        }
        Due.is("full", x.body(0), -3);
        Due.is("body(8), full", x.body(8), -1);
        Due.is("count(4)", x.count(4), 50);
        Due.is("act of 49, a plank's child is none: ELM", x.act(49, 0, 1), 53);
    }
}
