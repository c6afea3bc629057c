/** Promises 1 to 8: a new object, rows and shelves. */
final class ShelfPromises {
    private static final String NEW = "Promise 1: A new object";
    private static final String ROW = "Promise 2: row";
    private static final String SET = "Promise 3: set";
    private static final String COPY = "Promise 4: copy";
    private static final String ELEMENT = "Promise 5: element";
    private static final String HOLDS = "Promise 6: holds";
    private static final String SHOW = "Promise 7: show";
    private static final String SAYS = "Promise 8: says";

    private ShelfPromises() {
    }

    static void all() {
        Edge.of(NEW, "Nobody, nothing; SHELVES hold NOTHING; THE TAPE is empty.", ShelfPromises::newObject);
        Edge.of(ROW, "SHELF s holds a new ROW: 1.", ShelfPromises::row);
        Edge.of(ROW, "BAD.", ShelfPromises::rowBad);
        Edge.of(SET, "Element i of the ROW in SHELF s becomes v: 1.", ShelfPromises::set);
        Edge.of(SET, "BAD SHELF; OTHER; NOTHING; BAD i.", ShelfPromises::setRefused);
        Edge.of(COPY, "n elements of the ROW in SHELF p from place i on come to places j on of that in q (as they were): "
            + "n.", ShelfPromises::copy);
        Edge.of(COPY, "BAD SHELVES;", ShelfPromises::copyShelves);
        Edge.of(COPY, "OTHER (also ROWS of two SORTS, if both hold something);", ShelfPromises::copyOther);
        Edge.of(COPY, "NOTHING;", ShelfPromises::copyNothing);
        Edge.of(COPY, "BAD the others.", ShelfPromises::copyPlaces);
        Edge.of(ELEMENT, "Element i of the ROW;", ShelfPromises::element);
        Edge.of(ELEMENT, "0: none, no ROW (nothing is refused).", ShelfPromises::noElement);
        Edge.of(HOLDS, "What SHELF s holds:", ShelfPromises::holds);
        Edge.of(HOLDS, "NONE NOTHING, no SHELF;", ShelfPromises::holdsNothing);
        Edge.of(HOLDS, "0 to 4 a ROW by its SORT;", ShelfPromises::holdsRows);
        Edge.of(HOLDS, "10 and the number of a RINGER.", ShelfPromises::holdsRingers);
        Edge.of(SHOW, "SHELF s holds a RINGER, or NOTHING (ringer NONE): 1.", ShelfPromises::show);
        Edge.of(SHOW, "BAD.", ShelfPromises::showBad);
        Edge.of(SAYS, "What the RINGER in SHELF s, taken for one of a KIND, says: RINGER his BELL; LEARNER, CURATE, OLD, "
            + "MASTER, DEAF his SLIP, by his own KIND.", ShelfPromises::says);
        Edge.of(SAYS, "BAD SHELF, KIND;", ShelfPromises::saysBad);
        Edge.of(SAYS, "OTHER (also if he is of no such KIND nor of one under it);", ShelfPromises::saysOther);
        Edge.of(SAYS, "NOTHING.", ShelfPromises::saysNothing);
    }

    private static void newObject() {
        int[] due = {0, 0, 0, 0, 0, 0, 0, 1, 0};
        for (int what = 0; what <= 8; what++) {
            int asked = what;
            Edge.told("status " + what, RungBackwards::new, x -> x.status(asked), due[what]);
        }
        for (int what = 12; what <= 16; what++) {
            int asked = what;
            Edge.told("status " + what, RungBackwards::new, x -> x.status(asked), 0);
        }
        for (int s = 0; s <= 7; s++) {
            int shelf = s;
            Edge.told("holds " + s, RungBackwards::new, x -> x.holds(shelf), -1);
        }
        for (int what = 0; what <= 4; what++) {
            int asked = what;
            Edge.told("all " + what, RungBackwards::new, x -> x.all(asked), 0);
        }
        Due.due("wipe", new RungBackwards().wipe(), 0);
        Due.refused("nothing was kept", RungBackwards::new, x -> x.back(), Due.STUCK);
        Due.refused("no THING", RungBackwards::new, x -> x.thingOf(0, 0), Due.BAD);
        Due.refused("no RINGER", RungBackwards::new, x -> x.ringerOf(0, 0), Due.BAD);
        Due.due("NONE", RungBackwards.NONE, -1);
        RungBackwards x = new RungBackwards();
        x.thing(5, 0);
        x.feed(1);
        x.row(0, 0, 1);
        Due.due("another new one has none of it", Due.stateOf(new RungBackwards()).equals(Due.stateOf(x)) ? 1 : 0, 0);
    }

    private static void row() {
        RungBackwards x = Towers.rich();
        for (int s = 0; s <= 7; s++) {
            int sort = s % 5;
            int n = s == 7 ? 40 : 5 * s;
            Due.due("row", x.row(s, sort, n), 1);
            Due.due("it holds", x.holds(s), sort);
            Due.due("how many elements", Due.sizeOf(x, s), n);
        }
        Due.due("eight hold something", x.status(8), 8);
        RungBackwards y = Towers.rich();
        y.row(0, 0, 5);
        Due.due("new, it is 0", y.element(0, 4), 0);
        Due.due("its neighbour's first is left", y.element(1, 0), 7);
        Due.due("its neighbour's last is left", y.element(1, 2), -7);
        y.row(1, 0, 40);
        Due.due("the one ahead is left", y.set(0, 4, 6) + y.element(0, 4), 7);
        y.row(0, 3, 0);
        Due.due("of no elements, it is something", y.status(8), 5);
        Due.due("it holds", y.holds(0), 3);
    }

    private static void rowBad() {
        Edge.bounds("row(s, 0, 1)", Towers::rich, (x, v) -> x.row(v, 0, 1), 0, 7);
        Edge.bounds("row(2, sort, 1)", Towers::rich, (x, v) -> x.row(2, v, 1), 0, 4);
        for (int sort = 0; sort <= 4; sort++) {
            int s = sort;
            Edge.bounds("row(4, " + sort + ", n)", Towers::rich, (x, v) -> x.row(4, s, v), 0, 40);
        }
    }

    private static void set() {
        RungBackwards x = Towers.rich();
        Due.due("the first", x.set(0, 0, 9), 1);
        Due.due("the last", x.set(0, 4, -9), 1);
        long[] due = {9, 2, 3, 4, -9};
        for (int i = 0; i < 5; i++) {
            Due.due("element " + i, x.element(0, i), due[i]);
        }
        Due.due("the neighbour is left", x.element(1, 0), 7);
        for (int n : new int[] {1, 40}) {
            x.row(7, 3, n);
            Due.due("the last of " + n, x.set(7, n - 1, Long.MIN_VALUE), 1);
            Due.due("it is", x.element(7, n - 1), Long.MIN_VALUE);
        }
    }

    private static void setRefused() {
        Edge.bad("set(s, 0, 0)", Towers::rich, (x, v) -> x.set(v, 0, 1), -1, 8, Integer.MIN_VALUE, Integer.MAX_VALUE);
        Due.refused("set of a RINGER", Towers::rich, x -> x.set(2, 0, 1), Due.OTHER);
        Due.refused("set of NOTHING", Towers::rich, x -> x.set(4, 0, 1), Due.NOTHING);
        Edge.bounds("set(0, i, 9), of 5", Towers::rich, (x, v) -> x.set(0, v, 9), 0, 4);
        Edge.bounds("set(1, i, 9), of 3", Towers::rich, (x, v) -> x.set(1, v, 9), 0, 2);
        Edge.bad("set(7, i, 9), of none", () -> withRow(0), (x, v) -> x.set(7, v, 9), -1, 0, 1);
        Edge.bounds("set(7, i, 9), of 1", () -> withRow(1), (x, v) -> x.set(7, v, 9), 0, 0);
        Edge.bounds("set(7, i, 9), of 40", () -> withRow(40), (x, v) -> x.set(7, v, 9), 0, 39);
    }

    /** A ROW of so many longs in the last SHELF, and one of 40 in the one ahead. */
    private static RungBackwards withRow(int n) {
        RungBackwards x = new RungBackwards();
        x.row(6, 3, 40);
        x.row(7, 3, n);
        return x;
    }

    private static void elementsAre(String call, RungBackwards x, int s, long... due) {
        for (int i = 0; i < due.length; i++) {
            Due.due(call + ", element " + i, x.element(s, i), due[i]);
        }
        Due.due(call + ", none more", Due.sizeOf(x, s), due.length);
    }

    private static void copy() {
        RungBackwards x = Towers.rich();
        Due.due("the first three", x.copy(0, 1, 0, 0, 3), 3);
        elementsAre("the first three", x, 1, 1, 2, 3);
        Due.due("the last to the last", x.copy(0, 1, 4, 2, 1), 1);
        elementsAre("the last", x, 1, 1, 2, 5);
        Due.due("none", x.copy(0, 1, 5, 3, 0), 0);
        elementsAre("none", x, 1, 1, 2, 5);
        Due.due("a row onto itself", x.copy(0, 0, 0, 0, 5), 5);
        elementsAre("a row onto itself", x, 0, 1, 2, 3, 4, 5);
        Due.due("one on", x.copy(0, 0, 0, 1, 4), 4);
        elementsAre("one on, as they were", x, 0, 1, 1, 2, 3, 4);
        Due.due("two back", x.copy(0, 0, 2, 0, 3), 3);
        elementsAre("two back, as they were", x, 0, 2, 3, 4, 3, 4);
        RungBackwards y = withRow(40);
        y.set(6, 0, 5);
        y.set(6, 39, 6);
        Due.due("all of 40", y.copy(6, 7, 0, 0, 40), 40);
        Due.due("the first", y.element(7, 0), 5);
        Due.due("the last", y.element(7, 39), 6);
        Due.due("the first to the last", y.copy(6, 7, 0, 39, 1), 1);
        Due.due("it is", y.element(7, 39), 5);
        y.row(5, 3, 0);
        Due.due("none of none", y.copy(5, 5, 0, 0, 0), 0);
    }

    private static void copyShelves() {
        Edge.bounds("copy(p, 3, 0, 0, 0)", ShelfPromises::eightRows, (x, v) -> x.copy(v, 3, 0, 0, 0), 0, 7);
        Edge.bounds("copy(3, q, 0, 0, 0)", ShelfPromises::eightRows, (x, v) -> x.copy(3, v, 0, 0, 0), 0, 7);
        Edge.bad("copy(v, v, 0, 0, 0)", Towers::rich, (x, v) -> x.copy(v, v, 0, 0, 0), -1, 8);
    }

    private static RungBackwards eightRows() {
        RungBackwards x = new RungBackwards();
        for (int s = 0; s <= 7; s++) {
            x.row(s, 2, s);
        }
        return x;
    }

    private static void copyOther() {
        Due.refused("from a RINGER", Towers::rich, x -> x.copy(2, 0, 0, 0, 0), Due.OTHER);
        Due.refused("to a RINGER", Towers::rich, x -> x.copy(0, 2, 0, 0, 0), Due.OTHER);
        Due.refused("from a RINGER to himself", Towers::rich, x -> x.copy(2, 2, 0, 0, 0), Due.OTHER);
        for (int p = 0; p <= 4; p++) {
            for (int q = 0; q <= 4; q++) {
                RungBackwards x = new RungBackwards();
                x.row(0, p, 1);
                x.row(1, q, 1);
                Due.due("SORT " + p + " to " + q, x.copy(0, 1, 0, 0, 1), p == q ? 1 : Due.OTHER);
                Due.due("refused", x.status(13), p == q ? 0 : 1);
            }
        }
        Due.refused("one holds NOTHING: no two SORTS", Towers::rich, x -> x.copy(3, 4, 0, 0, 0), Due.NOTHING);
        Due.refused("the other one does", Towers::rich, x -> x.copy(4, 3, 0, 0, 0), Due.NOTHING);
    }

    private static void copyNothing() {
        Due.refused("from NOTHING", Towers::rich, x -> x.copy(4, 0, 0, 0, 0), Due.NOTHING);
        Due.refused("to NOTHING", Towers::rich, x -> x.copy(0, 7, 0, 0, 0), Due.NOTHING);
        Due.refused("both", Towers::rich, x -> x.copy(4, 7, 0, 0, 0), Due.NOTHING);
        Due.refused("the same", RungBackwards::new, x -> x.copy(0, 0, 0, 0, 0), Due.NOTHING);
    }

    /** Of SHELF 0 with 5 elements to SHELF 1 with 3. */
    private static void copyPlaces() {
        Edge.bounds("i, of 2", Towers::rich, (x, v) -> x.copy(0, 1, v, 0, 2), 0, 3);
        Edge.bounds("i, of none", Towers::rich, (x, v) -> x.copy(0, 1, v, 0, 0), 0, 5);
        Edge.bounds("j, of 2", Towers::rich, (x, v) -> x.copy(0, 1, 0, v, 2), 0, 1);
        Edge.bounds("j, of none", Towers::rich, (x, v) -> x.copy(0, 1, 0, v, 0), 0, 3);
        Edge.bounds("n, by those of q", Towers::rich, (x, v) -> x.copy(0, 1, 0, 0, v), 0, 3);
        Edge.bounds("n, by those of p", Towers::rich, (x, v) -> x.copy(1, 0, 0, 0, v), 0, 3);
        Edge.bounds("n, by places i on", Towers::rich, (x, v) -> x.copy(0, 1, 4, 0, v), 0, 1);
        Edge.bounds("n, by places j on", Towers::rich, (x, v) -> x.copy(0, 1, 0, 2, v), 0, 1);
        Edge.bounds("n, behind the last", Towers::rich, (x, v) -> x.copy(0, 1, 5, 3, v), 0, 0);
        Edge.bounds("n, of 40", () -> withRow(40), (x, v) -> x.copy(6, 7, 0, 0, v), 0, 40);
        Edge.bad("i and n that wrap", Towers::rich, (x, v) -> x.copy(0, 1, v, 0, v), Integer.MAX_VALUE, Integer.MIN_VALUE);
        Edge.bad("j and n that wrap", Towers::rich, (x, v) -> x.copy(0, 1, 0, v, v), Integer.MAX_VALUE, Integer.MIN_VALUE);
        Edge.bad("i of 1 and n", Towers::rich, (x, v) -> x.copy(0, 1, 1, 0, v), Integer.MAX_VALUE);
        Edge.bad("less than none from behind", Towers::rich, (x, v) -> x.copy(0, 1, 3, 3, v), -1, -3);
    }

    private static void element() {
        RungBackwards x = Towers.rich();
        elementsAre("bytes", x, 0, 1, 2, 3, 4, 5);
        elementsAre("bytes", x, 1, 7, 0, -7);
        elementsAre("ints", x, 3, 9, 8, 7, 6);
        RungBackwards y = withRow(40);
        y.set(7, 39, Long.MAX_VALUE);
        Due.due("the last of 40", y.element(7, 39), Long.MAX_VALUE);
        y.set(7, 0, Long.MIN_VALUE);
        Due.due("the first of 40", y.element(7, 0), Long.MIN_VALUE);
    }

    private static void noElement() {
        int[][] none = {{0, -1}, {0, 5}, {0, 40}, {0, Integer.MIN_VALUE}, {0, Integer.MAX_VALUE}, {1, -1}, {1, 3}, {2, 0},
            {4, 0}, {-1, 0}, {8, 0}, {-1, 40}, {8, -40}, {Integer.MIN_VALUE, 0}, {Integer.MAX_VALUE, 0}};
        for (int[] n : none) {
            Edge.told("element " + n[0] + ", " + n[1], Towers::rich, x -> x.element(n[0], n[1]), 0);
        }
        RungBackwards x = withRow(0);
        x.set(6, 39, 9);
        Due.due("of none the first", x.element(7, 0), 0);
        Due.due("ahead of it lies no other ROW's", x.element(7, -1), 0);
        x.row(7, 3, 1);
        x.set(7, 0, 8);
        Due.due("behind the 40th lies no other ROW's", x.element(6, 40), 0);
        x.row(7, 3, 0);
        Due.due("what was, behind a lesser ROW", x.element(7, 0), 0);
        x.ringer(0, 0, 0);
        x.show(6, 0);
        Due.due("a RINGER has none", x.element(6, 39), 0);
        x.show(6, -1);
        Due.due("NOTHING has none", x.element(6, 39), 0);
    }

    private static void holds() {
        RungBackwards x = Towers.rich();
        int[] due = {0, 0, 11, 2, -1, 3, -1, -1};
        for (int s = 0; s <= 7; s++) {
            Due.due("holds " + s, x.holds(s), due[s]);
        }
        Due.counted("holds", x, Towers.rich(), 0);
    }

    private static void holdsNothing() {
        for (int s : new int[] {4, 7, -1, 8, -2, 9, Integer.MIN_VALUE, Integer.MAX_VALUE}) {
            Edge.told("holds " + s, Towers::rich, x -> x.holds(s), -1);
        }
    }

    private static void holdsRows() {
        for (int sort = 0; sort <= 4; sort++) {
            for (int n : new int[] {0, 40}) {
                RungBackwards x = new RungBackwards();
                x.row(0, sort, n);
                x.row(7, sort, n);
                Due.due("the first, " + n, x.holds(0), sort);
                Due.due("the last, " + n, x.holds(7), sort);
            }
        }
    }

    private static void holdsRingers() {
        RungBackwards x = Towers.sixRingers();
        for (int r = 0; r <= 5; r++) {
            x.show(7, r);
            Due.due("ringer " + r, x.holds(7), 10 + r);
        }
    }

    private static void show() {
        RungBackwards x = Towers.rich();
        Due.due("over a ROW", x.show(0, 0), 1);
        Due.due("it holds", x.holds(0), 10);
        Due.due("the last over NOTHING", x.show(7, 3), 1);
        Due.due("it holds", x.holds(7), 13);
        Due.due("over a RINGER", x.show(2, 2), 1);
        Due.due("it holds", x.holds(2), 12);
        Due.due("how many", x.status(8), 6);
        Due.due("NOTHING over a RINGER", x.show(7, -1), 1);
        Due.due("it holds", x.holds(7), -1);
        Due.due("NOTHING over a ROW", x.show(1, -1), 1);
        Due.due("it holds", x.holds(1), -1);
        Due.due("NOTHING over NOTHING", x.show(6, -1), 1);
        Due.due("how many", x.status(8), 4);
        x.show(5, 3);
        Due.due("one RINGER may be in two SHELVES", x.show(6, 3), 1);
        Due.due("both hold him", x.holds(5) + x.holds(6), 26);
    }

    private static void showBad() {
        Edge.bounds("show(s, 0)", Towers::rich, (x, v) -> x.show(v, 0), 0, 7);
        Edge.bounds("show(s, NONE)", Towers::rich, (x, v) -> x.show(v, -1), 0, 7);
        Edge.bounds("show(0, ringer), of 4", Towers::rich, (x, v) -> x.show(0, v), -1, 3);
        Edge.bounds("show(0, ringer), of 6", Towers::sixRingers, (x, v) -> x.show(0, v), -1, 5);
        Edge.bounds("show(0, ringer), of none", RungBackwards::new, (x, v) -> x.show(0, v), -1, -1);
    }

    /** A RINGER of each KIND with a of 1: SLIPS 11, 33, 10, 17, 5, 11; BELLS 7, 6, 5, 4, 3, 2. */
    private static RungBackwards allKinds() {
        RungBackwards x = new RungBackwards();
        for (int kind = 0; kind <= 5; kind++) {
            x.ringer(kind, 1, 7 - kind);
            x.show(kind, kind);
        }
        return x;
    }

    private static void says() {
        RungBackwards x = allKinds();
        int[] slips = {11, 33, 10, 17, 5, 11};
        for (int kind = 0; kind <= 5; kind++) {
            Due.due(kind + " as a RINGER", x.says(kind, 0), 7 - kind);
            if (kind > 0) {
                Due.due(kind + " as himself", x.says(kind, kind), slips[kind]);
            }
        }
        Due.due("CURATE as LEARNER, by his own KIND", x.says(3, 1), 17);
        Due.due("MASTER as OLD, by his own KIND", x.says(4, 2), 5);
        x.tell(2, 4);
        Due.due("DEAF, his BELL CRACKED", x.says(5, 5), 50);
        Due.due("DEAF as RINGER, his BELL CRACKED", x.says(5, 0), 2);
        x.show(7, 1);
        Due.due("from the last SHELF", x.says(7, 1), 33);
    }

    private static void saysBad() {
        Edge.bad("says(s, 0)", Towers::rich, (x, v) -> x.says(v, 0), -1, 8, Integer.MIN_VALUE, Integer.MAX_VALUE);
        Edge.bad("says(2, kind)", Towers::rich, (x, v) -> x.says(2, v), -1, 6, Integer.MIN_VALUE, Integer.MAX_VALUE);
        Edge.bounds("says(s, 0)", ShelfPromises::eightRingers, (x, v) -> x.says(v, 0), 0, 7);
        Edge.taken("says(5, kind)", ShelfPromises::allKinds, (x, v) -> x.says(5, v), 0, 5);
    }

    private static RungBackwards eightRingers() {
        RungBackwards x = Towers.sixRingers();
        for (int s = 0; s <= 7; s++) {
            x.show(s, s % 6);
        }
        return x;
    }

    private static void saysOther() {
        int[] under = {1, 3, 5, 11, 21, 33};
        for (int own = 0; own <= 5; own++) {
            for (int kind = 0; kind <= 5; kind++) {
                if ((under[own] >> kind & 1) == 0) {
                    int shelf = own;
                    int as = kind;
                    Due.refused(own + " as " + kind, ShelfPromises::allKinds, x -> x.says(shelf, as), Due.OTHER);
                }
            }
        }
        Due.refused("a ROW", Towers::rich, x -> x.says(0, 0), Due.OTHER);
        Due.refused("a ROW as DEAF", Towers::rich, x -> x.says(5, 5), Due.OTHER);
    }

    private static void saysNothing() {
        for (int s : new int[] {4, 6, 7}) {
            for (int kind : new int[] {0, 5}) {
                Due.refused("says of SHELF " + s, Towers::rich, x -> x.says(s, kind), Due.NOTHING);
            }
        }
    }
}
