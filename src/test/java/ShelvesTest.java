import java.util.Random;

/** Shelves and counts (promises 38 to 44). */
public final class ShelvesTest {
    private static final int[] ABOVE = {-1, 0, 0, 2, 1, 3, 0, 4};

    public static void main(String[] args) {
        keepAndTaken();
        rows();
        elements();
        shifts();
        anyShifts();
        counts();
        Due.end();
    }

    private static void keepAndTaken() {
        ThreshedSound x = new ThreshedSound();
        Due.is("keep(0, 0): no body", x.keep(0, 0), -1);
        Due.is("keep(0, -2)", x.keep(0, -2), -1);
        Due.is("keep(6, -1)", x.keep(6, -1), -1);
        Due.is("keep(-1, -1)", x.keep(-1, -1), -1);
        Due.is("keep(0, -1)", x.keep(0, -1), 1);
        Due.is("taken(0, 0): nothing", x.taken(0, 0), -11);
        Due.is("taken(0, 8)", x.taken(0, 8), -1);
        Due.is("taken(0, -1)", x.taken(0, -1), -1);
        Due.is("taken(6, 0)", x.taken(6, 0), -1);
        Due.is("taken(-1, 0)", x.taken(-1, 0), -1);
        for (int kind = 0; kind < 8; kind++) {
            x.body(kind);
            Due.is("keep", x.keep(1, kind), 1);
            for (int k = 0; k < 8; k++) {
                boolean under = false;
                for (int at = kind; at >= 0; at = ABOVE[at]) {
                    under |= at == k;
                }
                Due.is("taken " + kind + " for " + k, x.taken(1, k), under ? kind : -12);
            }
        }
        Due.is("put on a flail", x.put(1, 0, 1), -12);
        Due.is("element of a flail", x.element(1, 0), Long.MIN_VALUE);
        Due.is("keep refused", x.keep(1, 8), -1);
        Due.is("still there", x.taken(1, 0), 7);
        x.row(1, 0, 3);
        Due.is("taken of a row", x.taken(1, 0), -12);
        x.keep(1, -1);
        Due.is("nothing", x.put(1, 0, 1), -11);
    }

    private static void rows() {
        ThreshedSound x = new ThreshedSound();
        Due.is("row(0, 5, 1)", x.row(0, 5, 1), -1);
        Due.is("row(0, -1, 1)", x.row(0, -1, 1), -1);
        Due.is("row(6, 0, 1)", x.row(6, 0, 1), -1);
        Due.is("row(-1, 0, 1)", x.row(-1, 0, 1), -1);
        Due.is("row(0, 0, 61)", x.row(0, 0, 61), -1);
        Due.is("row(0, 0, -1)", x.row(0, 0, -1), -14);
        Due.is("row(0, 0, MIN)", x.row(0, 0, Integer.MIN_VALUE), -14);
        Due.is("row(0, 5, -1)", x.row(0, 5, -1), -1);
        Due.is("row(6, 0, -1)", x.row(6, 0, -1), -1);
        Due.is("nothing came", x.put(0, 0, 1), -11);
        Due.is("row(0, 3, 60)", x.row(0, 3, 60), 1);
        for (int i = 0; i < 60; i++) {
            Due.is("element", x.element(0, i), 0);
            Due.is("put", x.put(0, i, i + 1), 1);
        }
        Due.is("put 60", x.put(0, 60, 1), -13);
        Due.is("put -1", x.put(0, -1, 1), -13);
        Due.is("put MIN", x.put(0, Integer.MIN_VALUE, 1), -13);
        Due.is("put MAX", x.put(0, Integer.MAX_VALUE, 1), -13);
        Due.is("a refusal changes nothing", x.row(0, 3, -1), -14);
        Due.is("element 59", x.element(0, 59), 60);
        Due.is("row(0, 3, 60)", x.row(0, 3, 60), 1);
        Due.is("a new row", x.element(0, 59), 0);
        Due.is("row(0, 3, 0)", x.row(0, 3, 0), 1);
        Due.is("no place", x.put(0, 0, 1), -13);
        Due.is("put(6, 0, 1)", x.put(6, 0, 1), -1);
        Due.is("put(-1, 0, 1)", x.put(-1, 0, 1), -1);
    }

    private static void elements() {
        ThreshedSound x = new ThreshedSound();
        long[] values = {0, 1, -1, 127, 128, 255, 256, 32768, 65536, 1L << 31, 1L << 32, Long.MAX_VALUE, Long.MIN_VALUE};
        for (int sort = 0; sort < 5; sort++) {
            x.row(sort, sort, values.length);
            for (int i = 0; i < values.length; i++) {
                Due.is("put", x.put(sort, i, values[i]), 1);
                long[] due = {(byte) values[i], (short) values[i], (int) values[i], values[i], values[i] == 0 ? 0 : 1};
                Due.is("element of sort " + sort, x.element(sort, i), due[sort]);
            }
        }
        Due.is("element(6, 0)", x.element(6, 0), Long.MIN_VALUE);
        Due.is("element(-1, 0)", x.element(-1, 0), Long.MIN_VALUE);
        Due.is("element(5, 0)", x.element(5, 0), Long.MIN_VALUE);
        Due.is("element(0, -1)", x.element(0, -1), Long.MIN_VALUE);
        Due.is("element(0, 13)", x.element(0, 13), Long.MIN_VALUE);
    }

    private static void shifts() {
        ThreshedSound x = new ThreshedSound();
        x.body(0);
        x.keep(1, 0);
        x.row(2, 0, 4);
        x.row(3, 1, 4);
        Due.bytes(x, 4, 1, 2, 3, 4, 5);
        Due.is("no shelf", x.shift(6, 0, 4, 0, 1), -1);
        Due.is("no shelf", x.shift(4, 0, -1, 0, 1), -1);
        Due.is("no shelf ahead of nothing", x.shift(0, 0, 6, 0, 1), -1);
        Due.is("nothing", x.shift(0, 0, 4, 0, 1), -11);
        Due.is("nothing", x.shift(4, 0, 0, 0, 1), -11);
        Due.is("nothing ahead of a flail", x.shift(1, 0, 0, 0, 1), -11);
        Due.is("a flail", x.shift(1, 0, 4, 0, 1), -12);
        Due.is("a flail", x.shift(4, 0, 1, 0, 1), -12);
        Due.is("two flails", x.shift(1, 0, 1, 0, 0), -12);
        Due.is("unlike sorts", x.shift(3, 0, 4, 0, 1), -12);
        Due.is("unlike sorts ahead of no place", x.shift(3, -1, 4, 0, 1), -12);
        Due.is("i below", x.shift(4, -1, 2, 0, 1), -13);
        Due.is("j below", x.shift(4, 0, 2, -1, 1), -13);
        Due.is("n below", x.shift(4, 0, 2, 0, -1), -13);
        Due.is("too many", x.shift(4, 0, 2, 0, 5), -13);
        Due.is("too far", x.shift(4, 4, 2, 0, 2), -13);
        Due.is("too far", x.shift(4, Integer.MAX_VALUE, 2, 0, Integer.MAX_VALUE), -13);
        Due.is("none, at the end", x.shift(4, 5, 2, 4, 0), 0);
        Due.is("none, behind the end", x.shift(4, 6, 2, 4, 0), -13);
        Due.is("none, behind the end", x.shift(4, 5, 2, 5, 0), -13);
        Due.is("nothing came", x.element(2, 0), 0);
        Due.is("two", x.shift(4, 3, 2, 1, 2), 2);
        Due.is("4", x.element(2, 1), 4);
        Due.is("5", x.element(2, 2), 5);
        Due.is("0", x.element(2, 3), 0);
        Due.is("the same, on", x.shift(4, 0, 4, 1, 4), 4);
        for (int i = 0; i < 5; i++) {
            Due.is("as they were before", x.element(4, i), Math.max(1, i));
        }
        Due.is("the same, back", x.shift(4, 2, 4, 1, 3), 3);
        int[] due = {1, 2, 3, 4, 4};
        for (int i = 0; i < 5; i++) {
            Due.is("as they were before", x.element(4, i), due[i]);
        }
    }

    private static void anyShifts() {
        Random random = new Random(29);
        for (int run = 0; run < 1500; run++) {
            ThreshedSound x = new ThreshedSound();
            long[][] rows = new long[6][];
            int sort = random.nextInt(4);
            for (int shelf = 0; shelf < 6; shelf++) {
                rows[shelf] = new long[random.nextInt(25)];
                x.row(shelf, sort, rows[shelf].length);
                for (int i = 0; i < rows[shelf].length; i++) {
                    rows[shelf][i] = random.nextInt(100);
                    x.put(shelf, i, rows[shelf][i]);
                }
            }
            for (int call = 0; call < 100; call++) {
                int from = random.nextInt(6);
                int to = random.nextInt(6);
                int i = random.nextInt(20) - 1;
                int j = random.nextInt(20) - 1;
                int n = random.nextInt(30) - 1;
                int due = n;
                try {
                    System.arraycopy(rows[from], i, rows[to], j, n);
                } catch (IndexOutOfBoundsException e) {
                    due = -13;
                }
                Due.is("shift", x.shift(from, i, to, j, n), due);
            }
            for (int shelf = 0; shelf < 6; shelf++) {
                for (int i = 0; i < rows[shelf].length; i++) {
                    Due.is("element", x.element(shelf, i), rows[shelf][i]);
                }
            }
        }
    }

    private static void counts() {
        ThreshedSound x = new ThreshedSound();
        Due.is("count(-1)", x.count(-1), -1);
        Due.is("count(6)", x.count(6), -1);
        x.man(0);
        Due.tell(x, 1, 2);
        Due.tell(x, 1, 2);
        x.feed(1);
        x.feed(2);
        x.feed(3);
        for (int i = 0; i < 5; i++) {
            x.body(i);
        }
        for (int i = 1; i < 5; i++) {
            x.mend(0, 6, i);
        }
        x.act(0, 3, 1);
        int[] due = {1, 2, 3, 4, 5, 4};
        for (int what = 0; what < 6; what++) {
            Due.is("count(" + what + ")", x.count(what), due[what]);
        }
    }
}
