/** Objects that the tests begin with. */
final class Towers {
    private Towers() {
    }

    /** So many THINGS of WORTH 1, RUNG in WEATHER 0. */
    static RungBackwards things(int n) {
        RungBackwards x = new RungBackwards();
        for (int i = 0; i < n; i++) {
            x.thing(1, 0);
        }
        return x;
    }

    static RungBackwards noThings() {
        return things(0);
    }

    static RungBackwards oneThing() {
        return things(1);
    }

    static RungBackwards twoThings() {
        return things(2);
    }

    static RungBackwards nineThings() {
        return things(9);
    }

    static RungBackwards tenThings() {
        return things(10);
    }

    /** So many RINGERS of KIND 0 with a of 0 on BELL 0: a SLIP of 10 each. */
    static RungBackwards ringers(int n) {
        RungBackwards x = new RungBackwards();
        for (int i = 0; i < n; i++) {
            x.ringer(0, 0, 0);
        }
        return x;
    }

    static RungBackwards sixRingers() {
        return ringers(6);
    }

    /** 10 THINGS, each on the one ahead of it. */
    static RungBackwards ladder() {
        RungBackwards x = tenThings();
        for (int i = 1; i < 10; i++) {
            x.hang(i, i - 1, 1);
        }
        return x;
    }

    /** 10 THINGS, each on all ahead of it. */
    static RungBackwards thicket() {
        RungBackwards x = tenThings();
        for (int i = 1; i < 10; i++) {
            for (int j = 0; j < i; j++) {
                x.hang(i, j, 1);
            }
        }
        return x;
    }

    /** The steeple, and nothing of it has BEEN. */
    static RungBackwards silent() {
        RungBackwards x = Due.steeple();
        for (int i = 0; i < 6; i++) {
            x.give(i, 3, 0);
        }
        return x;
    }

    static void put(RungBackwards x, int s, int sort, long... elements) {
        x.row(s, sort, elements.length);
        for (int i = 0; i < elements.length; i++) {
            x.set(s, i, elements[i]);
        }
    }

    /**
     * The steeple with something everywhere, so that what a refused call changes would be seen.
     * Shelf 0: bytes 1 to 5; 1: 3 bytes; 2: RINGER 1; 3: 4 ints; 4: NOTHING; 5: longs 0, 0, 5, a WRONG peal; 6, 7:
     * NOTHING. THE TAPE holds a statement and a half; what is kept is another tower.
     */
    static RungBackwards rich() {
        RungBackwards x = Due.steeple();
        x.give(5, 2, 98);
        x.give(2, 2, 7);
        x.tell(1, 998);
        x.seed(-5);
        x.image();
        x.seed(77);
        x.tell(1, 345);
        x.tell(2, 128);
        x.give(0, 2, 1);
        put(x, 0, 0, 1, 2, 3, 4, 5);
        put(x, 1, 0, 7, 0, -7);
        x.show(2, 1);
        put(x, 3, 2, 9, 8, 7, 6);
        put(x, 5, 3, 0, 0, 5);
        Due.feed(x, "year 5;said 4");
        return x;
    }
}
