/** Promises 1 to 8: a new object, rows, shelves. */
public final class ShelvesTest {
    private static final int[] NO_SHELVES = {-1, 8, Integer.MIN_VALUE, Integer.MAX_VALUE};

    public static void main(String[] args) {
        newObject();
        row();
        set();
        copy();
        element();
        holds();
        show();
        says();
        Due.end();
    }

    /** Shelf 0: 5 bytes; 1: 3 bytes; 2: ringer 1; 3: 4 ints; others nothing. */
    private static RungBackwards shelved() {
        RungBackwards x = Due.steeple();
        x.row(0, 0, 5);
        x.row(1, 0, 3);
        x.show(2, 1);
        x.row(3, 2, 4);
        for (int i = 0; i < 5; i++) {
            x.set(0, i, i + 1);
        }
        return x;
    }

    private static void newObject() {
        RungBackwards x = new RungBackwards();
        for (int i = 0; i <= 6; i++) {
            Due.due("new status " + i, x.status(i), 0);
        }
        Due.due("new status 7", x.status(7), 1);
        Due.due("new status 8", x.status(8), 0);
        for (int i = 12; i <= 16; i++) {
            Due.due("new status " + i, x.status(i), 0);
        }
        for (int s = 0; s < 8; s++) {
            Due.due("new holds " + s, x.holds(s), -1);
        }
        Due.due("NONE", RungBackwards.NONE, -1);
    }

    private static void row() {
        RungBackwards x = new RungBackwards();
        for (int sort = 0; sort <= 4; sort++) {
            Due.due("row", x.row(sort, sort, 40), 1);
            Due.due("holds", x.holds(sort), sort);
            Due.due("last element", x.set(sort, 39, 1), 1);
        }
        Due.due("row of none", x.row(7, 3, 0), 1);
        Due.due("holds", x.holds(7), 3);
        Due.due("a row of none is something", x.status(8), 6);
        x.set(3, 5, 77);
        x.row(3, 3, 40);
        Due.due("a new row is 0 again", x.element(3, 5), 0);
        for (int s : NO_SHELVES) {
            Due.refused("row " + s, ShelvesTest::shelved, y -> y.row(s, 0, 1), Due.BAD);
        }
        Due.refused("row sort -1", ShelvesTest::shelved, y -> y.row(0, -1, 1), Due.BAD);
        Due.refused("row sort 5", ShelvesTest::shelved, y -> y.row(0, 5, 1), Due.BAD);
        Due.refused("row n -1", ShelvesTest::shelved, y -> y.row(0, 0, -1), Due.BAD);
        Due.refused("row n 41", ShelvesTest::shelved, y -> y.row(0, 0, 41), Due.BAD);
    }

    private static void set() {
        long v = 0x1234567899ABCDEFL;
        long[] kept = {(byte) 0xEF, (short) 0xCDEF, 0x99ABCDEF, v, 1};
        RungBackwards x = new RungBackwards();
        for (int sort = 0; sort <= 4; sort++) {
            x.row(0, sort, 2);
            Due.due("set", x.set(0, 1, v), 1);
            Due.due("kept of sort " + sort, x.element(0, 1), kept[sort]);
            Due.due("beside it", x.element(0, 0), 0);
            x.set(0, 1, 0);
            Due.due("0 of sort " + sort, x.element(0, 1), 0);
        }
        x.set(0, 0, 256);
        Due.due("256 is not 0", x.element(0, 0), 1);
        x.set(0, 0, Long.MIN_VALUE);
        Due.due("least is not 0", x.element(0, 0), 1);
        x.row(0, 0, 1);
        x.set(0, 0, 200);
        Due.due("byte 200", x.element(0, 0), -56);
        for (int s : NO_SHELVES) {
            Due.refused("set " + s, ShelvesTest::shelved, y -> y.set(s, 0, 1), Due.BAD);
        }
        Due.refused("set ringer", ShelvesTest::shelved, y -> y.set(2, -1, 1), Due.OTHER);
        Due.refused("set nothing", ShelvesTest::shelved, y -> y.set(4, -1, 1), Due.NOTHING);
        Due.refused("set i -1", ShelvesTest::shelved, y -> y.set(0, -1, 1), Due.BAD);
        Due.refused("set i 5", ShelvesTest::shelved, y -> y.set(0, 5, 1), Due.BAD);
    }

    private static void copy() {
        RungBackwards x = shelved();
        Due.due("copy", x.copy(0, 1, 2, 0, 3), 3);
        Due.due("first", x.element(1, 0), 3);
        Due.due("last", x.element(1, 2), 5);
        Due.due("copy over itself, upward", x.copy(0, 0, 0, 1, 4), 4);
        long[] up = {1, 1, 2, 3, 4};
        for (int i = 0; i < 5; i++) {
            Due.due("upward " + i, x.element(0, i), up[i]);
        }
        Due.due("copy over itself, downward", x.copy(0, 0, 2, 0, 3), 3);
        long[] down = {2, 3, 4, 3, 4};
        for (int i = 0; i < 5; i++) {
            Due.due("downward " + i, x.element(0, i), down[i]);
        }
        Due.due("none at the end", x.copy(0, 1, 5, 3, 0), 0);
        Due.due("its neighbour is left", x.element(1, 2), 5);
        for (int s : NO_SHELVES) {
            Due.refused("copy from " + s, ShelvesTest::shelved, y -> y.copy(s, 2, 0, 0, 0), Due.BAD);
            Due.refused("copy to " + s, ShelvesTest::shelved, y -> y.copy(2, s, 0, 0, 0), Due.BAD);
        }
        Due.refused("copy from ringer", ShelvesTest::shelved, y -> y.copy(2, 0, 0, 0, 0), Due.OTHER);
        Due.refused("copy to ringer", ShelvesTest::shelved, y -> y.copy(0, 2, 0, 0, 0), Due.OTHER);
        Due.refused("copy nothing to ringer", ShelvesTest::shelved, y -> y.copy(4, 2, 0, 0, 0), Due.OTHER);
        Due.refused("copy ringer to nothing", ShelvesTest::shelved, y -> y.copy(2, 4, 0, 0, 0), Due.OTHER);
        Due.refused("copy two sorts", ShelvesTest::shelved, y -> y.copy(0, 3, -1, 0, 0), Due.OTHER);
        Due.refused("copy from nothing", ShelvesTest::shelved, y -> y.copy(4, 0, -1, 0, 0), Due.NOTHING);
        Due.refused("copy to nothing", ShelvesTest::shelved, y -> y.copy(3, 4, 9, 0, 0), Due.NOTHING);
        int[][] bad = {{-1, 0, 1}, {0, -1, 1}, {0, 0, -1}, {3, 0, 3}, {0, 1, 3}, {6, 0, 0}, {0, 4, 0},
            {Integer.MAX_VALUE, 0, 1}, {0, Integer.MAX_VALUE, 1}, {1, 1, Integer.MAX_VALUE}, {0, 0, 4}};
        for (int[] b : bad) {
            Due.refused("copy " + b[0] + " " + b[1] + " " + b[2], ShelvesTest::shelved,
                y -> y.copy(0, 1, b[0], b[1], b[2]), Due.BAD);
        }
    }

    private static void element() {
        RungBackwards x = shelved();
        int[][] none = {{-1, 0}, {8, 0}, {2, 0}, {4, 0}, {0, -1}, {0, 5}, {0, 40}, {0, Integer.MIN_VALUE},
            {Integer.MAX_VALUE, 3}, {0, Integer.MAX_VALUE}};
        for (int[] n : none) {
            Due.due("element " + n[0] + " " + n[1], x.element(n[0], n[1]), 0);
        }
        Due.due("element", x.element(0, 4), 5);
        x.row(5, 0, 40);
        x.row(6, 0, 1);
        x.set(6, 0, 9);
        Due.due("behind the last of 40", x.element(5, 40), 0);
        x.set(5, 39, 8);
        Due.due("ahead of the first", x.element(6, -1), 0);
        for (int i = 12; i <= 16; i++) {
            Due.due("nothing is refused", x.status(i), 0);
        }
    }

    private static void holds() {
        RungBackwards x = shelved();
        int[] held = {0, 0, 11, 2, -1, -1, -1, -1};
        for (int s = 0; s < 8; s++) {
            Due.due("holds " + s, x.holds(s), held[s]);
        }
        for (int s : NO_SHELVES) {
            Due.due("holds " + s, x.holds(s), -1);
        }
        Due.due("nothing is refused", x.status(12), 0);
    }

    private static void show() {
        RungBackwards x = shelved();
        Due.due("show", x.show(7, 3), 1);
        Due.due("holds", x.holds(7), 13);
        Due.due("five hold something", x.status(8), 5);
        Due.due("show instead of a row", x.show(0, 0), 1);
        Due.due("holds", x.holds(0), 10);
        Due.due("show nothing", x.show(0, -1), 1);
        Due.due("holds", x.holds(0), -1);
        Due.due("four hold something", x.status(8), 4);
        x.row(7, 1, 1);
        Due.due("a row instead of a ringer", x.holds(7), 1);
        for (int s : NO_SHELVES) {
            Due.refused("show " + s, ShelvesTest::shelved, y -> y.show(s, -1), Due.BAD);
        }
        Due.refused("show ringer 4", ShelvesTest::shelved, y -> y.show(0, 4), Due.BAD);
        Due.refused("show ringer -2", ShelvesTest::shelved, y -> y.show(0, -2), Due.BAD);
        Due.refused("show without ringers", RungBackwards::new, y -> y.show(0, 0), Due.BAD);
    }

    private static void says() {
        RungBackwards x = Due.towerOf("ringer 0 1 7;ringer 1 1 6;ringer 2 1 5;ringer 3 1 4;ringer 4 1 3;ringer 5 1 2");
        int[] slips = {11, 33, 10, 17, 5, 11};
        boolean[][] isOne = new boolean[6][6];
        for (int i = 0; i < 6; i++) {
            isOne[i][i] = true;
            isOne[i][0] = true;
        }
        isOne[3][1] = true;
        isOne[4][2] = true;
        for (int i = 0; i < 6; i++) {
            x.show(i, i);
            for (int kind = 0; kind < 6; kind++) {
                int due = !isOne[i][kind] ? Due.OTHER : kind == 0 ? 7 - i : slips[i];
                Due.due("ringer " + i + " as " + kind, x.says(i, kind), due);
            }
        }
        x.tell(2, 4);
        Due.due("deaf on a cracked bell", x.says(5, 5), 50);
        for (int s : NO_SHELVES) {
            Due.refused("says " + s, ShelvesTest::shelved, y -> y.says(s, 0), Due.BAD);
        }
        Due.refused("says kind 6", ShelvesTest::shelved, y -> y.says(2, 6), Due.BAD);
        Due.refused("says kind -1", ShelvesTest::shelved, y -> y.says(4, -1), Due.BAD);
        Due.refused("says of a row", ShelvesTest::shelved, y -> y.says(0, 0), Due.OTHER);
        Due.refused("says of another kind", ShelvesTest::shelved, y -> y.says(2, 3), Due.OTHER);
        Due.refused("says of nothing", ShelvesTest::shelved, y -> y.says(4, 0), Due.NOTHING);
    }
}
