/** The bounds of shelves, rows and counts: a sentence of the document a test (promises 38 to 44). */
public final class ShelvesBoundsTest {
    private static final int MIN = Integer.MIN_VALUE;
    private static final int MAX = Integer.MAX_VALUE;
    private static final long NONE = Long.MIN_VALUE;
    private static final int[] NO_SHELVES = {-1, 6, MIN, MAX};

    public static void main(String[] args) {
        shelvesAre0To5();
        shelvesHoldNothingAtFirst();
        keepNothingOrABody();
        aRowInAFlailsPlace();
        sortsAre0To4();
        rowsOf0To60Elements();
        aSizeBelow0();
        rowsAre0AtFirst();
        placesOfARow();
        bytesKeepTheirLowestBits();
        shortsKeepTheirLowestBits();
        intsKeepTheirLowestBits();
        longsAreKept();
        booleansAreWhetherItIsNot0();
        putAnswersInItsOrder();
        elementsOfNothing();
        shiftWithinBothRows();
        shiftOfNone();
        shiftOfSixty();
        shiftOntoItself();
        shiftOfEverySort();
        shiftAnswersInItsOrder();
        takenForAKindOrUnderIt();
        takenAnswersInItsOrder();
        countOf0To5();
        Due.end();
    }

    private static void shelvesAre0To5() {
        ThreshedSound x = new ThreshedSound();
        x.body(0);
        for (int shelf : NO_SHELVES) {
            Due.is("keep", x.keep(shelf, 0), -1);
            Due.is("keep nothing", x.keep(shelf, -1), -1);
            Due.is("row", x.row(shelf, 0, 1), -1);
            Due.is("put", x.put(shelf, 0, 1), -1);
            Due.is("element", x.element(shelf, 0), NONE);
            Due.is("shift from", x.shift(shelf, 0, 0, 0, 0), -1);
            Due.is("shift to", x.shift(0, 0, shelf, 0, 0), -1);
            Due.is("taken", x.taken(shelf, 0), -1);
        }
        for (int shelf = 0; shelf < 6; shelf++) {
            Due.is("keep", x.keep(shelf, 0), 1);
            Due.is("taken", x.taken(shelf, 0), 0);
            Due.is("row", x.row(shelf, 0, 1), 1);
            Due.is("put", x.put(shelf, 0, shelf), 1);
            Due.is("keep nothing", x.keep((shelf + 1) % 6, -1), 1);
        }
        Due.is("the last, kept", x.element(5, 0), 5);
    }

    private static void shelvesHoldNothingAtFirst() {
        ThreshedSound x = new ThreshedSound();
        for (int shelf = 0; shelf < 6; shelf++) {
            Due.is("put", x.put(shelf, 0, 1), -11);
            Due.is("element", x.element(shelf, 0), NONE);
            Due.is("shift", x.shift(shelf, 0, shelf, 0, 0), -11);
            Due.is("taken", x.taken(shelf, 0), -11);
            Due.is("plan", x.plan(shelf, 0), -11);
        }
    }

    private static void keepNothingOrABody() {
        ThreshedSound x = new ThreshedSound();
        Due.is("body 0, ahead of any", x.keep(0, 0), -1);
        Due.is("nothing", x.keep(0, -1), 1);
        for (int body = 0; body < 50; body++) {
            x.body(body % 8);
            Due.is("the latest", x.keep(body % 6, body), 1);
            Due.is("its kind", x.taken(body % 6, 0), body % 8);
            Due.is("the next", x.keep(body % 6, body + 1), -1);
            Due.is("still its kind", x.taken(body % 6, 0), body % 8);
        }
        for (int body : new int[] {-2, 50, MIN, MAX}) {
            Due.is("keep " + body, x.keep(1, body), -1);
        }
        Due.is("still the last", x.taken(1, 0), 1);
        Due.is("nothing", x.keep(1, -1), 1);
        Due.is("nothing there", x.taken(1, 0), -11);
        Due.is("the body itself is kept", x.act(49, 0, 0), 52);
    }

    private static void aRowInAFlailsPlace() {
        ThreshedSound x = new ThreshedSound();
        x.body(0);
        x.keep(0, 0);
        Due.is("no row", x.put(0, 0, 1), -12);
        Due.is("no row", x.shift(0, 0, 0, 0, 0), -12);
        Due.is("a row", x.row(0, 0, 1), 1);
        Due.is("no flail", x.taken(0, 0), -12);
        Due.is("a row", x.put(0, 0, 1), 1);
        Due.is("a flail", x.keep(0, 0), 1);
        Due.is("no row", x.element(0, 0), NONE);
        Due.is("a row anew", x.row(0, 0, 1), 1);
        Due.is("of 0", x.element(0, 0), 0);
        Due.is("nothing", x.keep(0, -1), 1);
        Due.is("nothing", x.put(0, 0, 1), -11);
    }

    private static void sortsAre0To4() {
        ThreshedSound x = new ThreshedSound();
        for (int sort : new int[] {-1, 5, MIN, MAX}) {
            Due.is("sort " + sort, x.row(0, sort, 1), -1);
        }
        Due.is("nothing came", x.put(0, 0, 1), -11);
        for (int sort = 0; sort < 5; sort++) {
            Due.is("sort " + sort, x.row(0, sort, 1), 1);
            Due.is("no sort", x.row(0, 5, 2), -1);
            Due.is("one place stays", x.put(0, 1, 1), -13);
        }
    }

    private static void rowsOf0To60Elements() {
        ThreshedSound x = new ThreshedSound();
        for (int sort = 0; sort < 5; sort++) {
            Due.is("none", x.row(0, sort, 0), 1);
            Due.is("no place", x.put(0, 0, 1), -13);
            Due.is("one", x.row(0, sort, 1), 1);
            Due.is("a place", x.put(0, 0, 1), 1);
            Due.is("no second", x.put(0, 1, 1), -13);
            Due.is("sixty", x.row(0, sort, 60), 1);
            Due.is("the last", x.put(0, 59, 1), 1);
            Due.is("none behind it", x.put(0, 60, 1), -13);
            Due.is("61", x.row(0, sort, 61), -1);
            Due.is("MAX", x.row(0, sort, MAX), -1);
            Due.is("the last stays", x.element(0, 59), 1);
        }
    }

    private static void aSizeBelow0() {
        ThreshedSound x = new ThreshedSound();
        Due.is("-1", x.row(0, 0, -1), -14);
        Due.is("MIN", x.row(0, 4, MIN), -14);
        Due.is("nothing came", x.put(0, 0, 1), -11);
        for (int shelf : NO_SHELVES) {
            Due.is("no shelf: BAD first", x.row(shelf, 0, -1), -1);
        }
        Due.is("no sort: BAD first", x.row(0, 5, -1), -1);
        Due.is("no sort: BAD first", x.row(0, -1, MIN), -1);
        Due.bytes(x, 0, 7);
        Due.is("-1", x.row(0, 2, -1), -14);
        Due.is("the old row stays", x.element(0, 0), 7);
        Due.is("its sort stays", x.plan(0, 0), 0);
    }

    private static void rowsAre0AtFirst() {
        ThreshedSound x = new ThreshedSound();
        for (int sort = 0; sort < 5; sort++) {
            x.row(0, sort, 60);
            for (int i = 0; i < 60; i++) {
                Due.is("at first", x.element(0, i), 0);
                if (i % 7 == 0) {
                    x.put(0, i, -1);
                }
            }
        }
        x.row(0, 0, 3);
        x.row(0, 0, 60);
        Due.is("a longer one", x.element(0, 56), 0);
    }

    private static void placesOfARow() {
        ThreshedSound x = new ThreshedSound();
        x.row(2, 3, 5);
        for (int i : new int[] {-1, 5, 59, 60, MIN, MAX}) {
            Due.is("put " + i, x.put(2, i, 1), -13);
            Due.is("element " + i, x.element(2, i), NONE);
        }
        for (int i = 0; i < 5; i++) {
            Due.is("at first", x.element(2, i), 0);
            Due.is("put", x.put(2, i, i + 1), 1);
            Due.is("element", x.element(2, i), i + 1);
        }
    }

    private static void keeps(int sort, long v, long due) {
        ThreshedSound x = new ThreshedSound();
        x.row(0, sort, 1);
        Due.is("put " + v + " of sort " + sort, x.put(0, 0, v), 1);
        Due.is("element of " + v + " of sort " + sort, x.element(0, 0), due);
    }

    private static void bytesKeepTheirLowestBits() {
        keeps(0, 127, 127);
        keeps(0, 128, -128);
        keeps(0, -128, -128);
        keeps(0, -129, 127);
        keeps(0, 255, -1);
        keeps(0, 256, 0);
        keeps(0, Long.MAX_VALUE, -1);
        keeps(0, Long.MIN_VALUE, 0);
    }

    private static void shortsKeepTheirLowestBits() {
        keeps(1, 32767, 32767);
        keeps(1, 32768, -32768);
        keeps(1, -32768, -32768);
        keeps(1, -32769, 32767);
        keeps(1, 65535, -1);
        keeps(1, 65536, 0);
        keeps(1, Long.MAX_VALUE, -1);
        keeps(1, Long.MIN_VALUE, 0);
    }

    private static void intsKeepTheirLowestBits() {
        keeps(2, MAX, MAX);
        keeps(2, MAX + 1L, MIN);
        keeps(2, MIN, MIN);
        keeps(2, MIN - 1L, MAX);
        keeps(2, 0xffffffffL, -1);
        keeps(2, 0x100000000L, 0);
        keeps(2, Long.MAX_VALUE, -1);
        keeps(2, Long.MIN_VALUE, 0);
    }

    private static void longsAreKept() {
        keeps(3, Long.MAX_VALUE, Long.MAX_VALUE);
        keeps(3, Long.MIN_VALUE, Long.MIN_VALUE);
        keeps(3, 0x100000000L, 0x100000000L);
        keeps(3, -1, -1);
    }

    private static void booleansAreWhetherItIsNot0() {
        keeps(4, 0, 0);
        keeps(4, 1, 1);
        keeps(4, 2, 1);
        keeps(4, -1, 1);
        keeps(4, 256, 1);
        keeps(4, 0x100000000L, 1);
        keeps(4, Long.MIN_VALUE, 1);
        keeps(4, Long.MAX_VALUE, 1);
    }

    private static void putAnswersInItsOrder() {
        ThreshedSound x = new ThreshedSound();
        x.body(0);
        x.keep(1, 0);
        x.row(2, 0, 2);
        Due.is("BAD", x.put(6, -1, 1), -1);
        Due.is("-11 ahead of the place", x.put(0, -1, 1), -11);
        Due.is("-12 ahead of the place", x.put(1, -1, 1), -12);
        Due.is("-13", x.put(2, -1, 1), -13);
        Due.is("1", x.put(2, 1, 1), 1);
    }

    private static void elementsOfNothing() {
        ThreshedSound x = new ThreshedSound();
        x.body(0);
        x.keep(1, 0);
        x.row(2, 0, 0);
        Due.is("nothing", x.element(0, 0), NONE);
        Due.is("a flail", x.element(1, 0), NONE);
        Due.is("a row of none", x.element(2, 0), NONE);
        x.row(2, 0, 1);
        Due.is("a row of one", x.element(2, 0), 0);
    }

    /** SHELF 0: 1 to 5; SHELF 1: three of 0. */
    private static ThreshedSound twoRows() {
        ThreshedSound x = new ThreshedSound();
        Due.bytes(x, 0, 1, 2, 3, 4, 5);
        Due.bytes(x, 1, 0, 0, 0);
        return x;
    }

    private static void rowIs(ThreshedSound x, int shelf, int... due) {
        for (int i = 0; i < due.length; i++) {
            Due.is("element(" + shelf + ", " + i + ")", x.element(shelf, i), due[i]);
        }
        Due.is("no more on " + shelf, x.element(shelf, due.length), NONE);
    }

    private static void shiftWithinBothRows() {
        ThreshedSound x = twoRows();
        int[][] refused = {{-1, 0, 1}, {0, -1, 1}, {0, 0, -1}, {5, 0, 1}, {0, 3, 1}, {3, 0, 3}, {0, 1, 3}, {0, 0, 4},
            {MIN, 0, 1}, {0, MIN, 1}, {0, 0, MIN}, {MAX, 0, 1}, {0, MAX, 1}, {0, 0, MAX}, {MAX, MAX, MAX}, {1, 0, MAX},
            {MAX, 0, MIN}, {5, 0, -1}, {6, 0, -1}};
        for (int[] to : refused) {
            Due.is("shift " + to[0] + ", " + to[1] + ", " + to[2], x.shift(0, to[0], 1, to[1], to[2]), -13);
        }
        rowIs(x, 1, 0, 0, 0);
        rowIs(x, 0, 1, 2, 3, 4, 5);
        Due.is("the first", x.shift(0, 0, 1, 0, 1), 1);
        rowIs(x, 1, 1, 0, 0);
        Due.is("the last", x.shift(0, 4, 1, 2, 1), 1);
        rowIs(x, 1, 1, 0, 5);
        Due.is("up to both ends", x.shift(0, 2, 1, 0, 3), 3);
        rowIs(x, 1, 3, 4, 5);
        rowIs(x, 0, 1, 2, 3, 4, 5);
    }

    private static void shiftOfNone() {
        ThreshedSound x = twoRows();
        Due.is("at both starts", x.shift(0, 0, 1, 0, 0), 0);
        Due.is("at both ends", x.shift(0, 5, 1, 3, 0), 0);
        Due.is("behind its end", x.shift(0, 6, 1, 3, 0), -13);
        Due.is("behind the other's end", x.shift(0, 5, 1, 4, 0), -13);
        Due.is("ahead of its start", x.shift(0, -1, 1, 0, 0), -13);
        Due.is("ahead of the other's start", x.shift(0, 0, 1, -1, 0), -13);
        x.row(1, 0, 0);
        Due.is("to a row of none", x.shift(0, 0, 1, 0, 0), 0);
        Due.is("one to a row of none", x.shift(0, 0, 1, 0, 1), -13);
    }

    private static void shiftOfSixty() {
        ThreshedSound x = new ThreshedSound();
        x.row(0, 2, 60);
        x.row(1, 2, 60);
        for (int i = 0; i < 60; i++) {
            x.put(0, i, i + 1);
        }
        Due.is("61", x.shift(0, 0, 1, 0, 61), -13);
        Due.is("sixty", x.shift(0, 0, 1, 0, 60), 60);
        Due.is("the first", x.element(1, 0), 1);
        Due.is("the last", x.element(1, 59), 60);
    }

    private static void shiftOntoItself() {
        ThreshedSound x = twoRows();
        Due.is("on", x.shift(0, 0, 0, 1, 4), 4);
        rowIs(x, 0, 1, 1, 2, 3, 4);
        Due.is("back", x.shift(0, 1, 0, 0, 4), 4);
        rowIs(x, 0, 1, 2, 3, 4, 4);
        Due.is("all, where it is", x.shift(0, 0, 0, 0, 5), 5);
        rowIs(x, 0, 1, 2, 3, 4, 4);
        Due.is("one too many", x.shift(0, 0, 0, 1, 5), -13);
        Due.is("one too many", x.shift(0, 1, 0, 0, 5), -13);
        rowIs(x, 0, 1, 2, 3, 4, 4);
    }

    private static void shiftOfEverySort() {
        long[] values = {-1, -1, -1, Long.MIN_VALUE, 1};
        for (int sort = 0; sort < 5; sort++) {
            for (int other = 0; other < 5; other++) {
                ThreshedSound x = new ThreshedSound();
                x.row(0, sort, 1);
                x.row(1, other, 1);
                x.put(0, 0, values[sort]);
                Due.is("sorts " + sort + ", " + other, x.shift(0, 0, 1, 0, 1), sort == other ? 1 : -12);
                Due.is("element", x.element(1, 0), sort == other ? values[sort] : 0);
                Due.is("none of unlike sorts", x.shift(0, 0, 1, 0, 0), sort == other ? 0 : -12);
            }
        }
    }

    private static void shiftAnswersInItsOrder() {
        ThreshedSound x = twoRows();
        x.body(0);
        x.keep(2, 0);
        x.row(3, 1, 3);
        Due.is("BAD ahead of -11", x.shift(6, 0, 5, 0, 1), -1);
        Due.is("BAD ahead of -11", x.shift(5, 0, 6, 0, 1), -1);
        Due.is("BAD ahead of -12", x.shift(2, 0, -1, 0, 1), -1);
        Due.is("-11 ahead of -12, the other", x.shift(2, 0, 5, 0, 1), -11);
        Due.is("-11 ahead of -12, the first", x.shift(5, 0, 2, 0, 1), -11);
        Due.is("-11 ahead of -13", x.shift(5, -1, 0, 0, 1), -11);
        Due.is("-12 of a flail ahead of -13", x.shift(2, -1, 0, 0, 1), -12);
        Due.is("-12 to a flail ahead of -13", x.shift(0, -1, 2, 0, 1), -12);
        Due.is("-12 of unlike sorts ahead of -13", x.shift(0, -1, 3, 0, 1), -12);
        Due.is("-12 of unlike sorts, n below 0", x.shift(0, 0, 3, 0, -1), -12);
        Due.is("-13", x.shift(0, -1, 1, 0, 1), -13);
    }

    private static void takenForAKindOrUnderIt() {
        // by kind held, the kinds it may be taken for: itself and all above it
        int[] due = {1, 1 | 1 << 1, 1 | 1 << 2, 1 | 1 << 2 | 1 << 3, 1 | 1 << 1 | 1 << 4,
            1 | 1 << 2 | 1 << 3 | 1 << 5, 1 | 1 << 6, 1 | 1 << 1 | 1 << 4 | 1 << 7};
        ThreshedSound x = new ThreshedSound();
        for (int kind = 0; kind < 8; kind++) {
            x.body(kind);
            x.keep(kind % 6, kind);
            for (int k = 0; k < 8; k++) {
                Due.is("a " + kind + " for a " + k, x.taken(kind % 6, k), (due[kind] >> k & 1) == 1 ? kind : -12);
            }
        }
    }

    private static void takenAnswersInItsOrder() {
        ThreshedSound x = new ThreshedSound();
        x.body(7);
        x.keep(1, 0);
        x.row(2, 0, 1);
        for (int k : new int[] {-1, 8, MIN, MAX}) {
            Due.is("BAD ahead of -11", x.taken(0, k), -1);
            Due.is("BAD", x.taken(1, k), -1);
            Due.is("BAD ahead of -12", x.taken(2, k), -1);
        }
        for (int k = 0; k < 8; k++) {
            Due.is("-11", x.taken(0, k), -11);
            Due.is("-12", x.taken(2, k), -12);
        }
        Due.is("a FINLAY", x.taken(1, 7), 7);
    }

    private static void countOf0To5() {
        ThreshedSound x = new ThreshedSound();
        for (int what : new int[] {-1, 6, MIN, MAX}) {
            Due.is("count(" + what + ")", x.count(what), -1);
        }
        for (int what = 0; what < 6; what++) {
            Due.is("at first", x.count(what), 0);
        }
        x.man(0);
        countsAre(x, 1, 0, 0, 0, 0, 0);
        Due.tell(x, 1);
        countsAre(x, 1, 1, 0, 0, 0, 0);
        x.feed('5');
        countsAre(x, 1, 1, 1, 0, 0, 0);
        x.mend(0, 0, 1);
        countsAre(x, 1, 1, 1, 1, 0, 0);
        x.body(0);
        countsAre(x, 1, 1, 1, 1, 1, 0);
        x.act(0, 1, 1);
        countsAre(x, 1, 1, 1, 1, 1, 2);
        x.law();
        x.undo();
        x.act(0, 9, 1);
        countsAre(x, 1, 1, 0, 0, 1, 0);
    }

    private static void countsAre(ThreshedSound x, int... due) {
        for (int what = 0; what < 6; what++) {
            Due.is("count(" + what + ")", x.count(what), due[what]);
        }
    }
}
