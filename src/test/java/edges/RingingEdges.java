/** Terms, 2. RINGING: slips, what stands, what may be rung, what is off. */
final class RingingEdges {
    private static final String TERMS = "Terms";
    private static final int RINGER = 0;
    private static final int LEARNER = 1;
    private static final int OLD = 2;
    private static final int CURATE = 3;
    private static final int MASTER = 4;
    private static final int DEAF = 5;

    private RingingEdges() {
    }

    static void all() {
        Edge.of(TERMS, "==== 2. RINGING SLIP of a RINGER, of 100: RINGER 10 and a.",
            () -> slips(RINGER, 10, 11, 12, 13, 14, 15, 16, 17, 18, 19));
        Edge.of(TERMS, "LEARNER three times what a RINGER has.",
            () -> slips(LEARNER, 30, 33, 36, 39, 42, 45, 48, 51, 54, 57));
        Edge.of(TERMS, "CURATE half of what a LEARNER has (upward).",
            () -> slips(CURATE, 15, 17, 18, 20, 21, 23, 24, 26, 27, 29));
        Edge.of(TERMS, "OLD what a RINGER has, less a.", () -> slips(OLD, 10, 10, 10, 10, 10, 10, 10, 10, 10, 10));
        Edge.of(TERMS, "MASTER what an OLD one has, less 5.", () -> slips(MASTER, 5, 5, 5, 5, 5, 5, 5, 5, 5, 5));
        Edge.of(TERMS, "DEAF what a RINGER has, but 50, if his BELL is CRACKED.", RingingEdges::deafSlip);
        Edge.of(TERMS, "(0 at least, 99 at most, each of these.)", RingingEdges::slipBounds);
        Edge.of(TERMS, "WELL of told RINGERS (bits): none slips, all for themselves: of 1,000,000 (each times 100 less "
            + "SLIP, by 100, cut each time, by numbers; nobody: 1,000,000).", RingingEdges::well);
        Edge.of(TERMS, "A THING STANDS, if it has BEEN and all it hangs on STAND.", RingingEdges::stands);
        Edge.of(TERMS, "OPEN: its BELL, its number modulo 8, isn't CRACKED.", RingingEdges::open);
        Edge.of(TERMS, "It MAY be rung back, if it has BEEN, is OPEN and RUNG in the WEATHER there is now;",
            RingingEdges::mayBack);
        Edge.of(TERMS, "rung forwards, if it hasn't BEEN, is OPEN (any WEATHER; its WEATHER is the one now then,",
            RingingEdges::mayForwards);
        Edge.of(TERMS, "its AGE 1 less, 0 at least).", RingingEdges::ageLess);
        Edge.of(TERMS, "RUNG back it hasn't BEEN.", RingingEdges::rungBack);
        Edge.of(TERMS, "OFF by a THING: those (bits) that STAND now and wouldn't, if it hadn't BEEN.",
            RingingEdges::off);
    }

    /** SLIP of a KIND with each a from 0 to 9, whatever is CRACKED (but of DEAF ones). */
    private static void slips(int kind, int... due) {
        for (int a = 0; a <= 9; a++) {
            RungBackwards x = new RungBackwards();
            x.ringer(kind, a, 3);
            Due.due("SLIP of " + kind + ", " + a, x.ringerOf(0, 3), due[a]);
            x.tell(2, kind == DEAF ? 255 - 8 : 255);
            Due.due("SLIP of " + kind + ", " + a + ", cracks told", x.ringerOf(0, 3), due[a]);
        }
    }

    private static void deafSlip() {
        slips(DEAF, 10, 11, 12, 13, 14, 15, 16, 17, 18, 19);
        for (int bell = 0; bell <= 7; bell++) {
            RungBackwards x = new RungBackwards();
            x.ringer(DEAF, 9, bell);
            x.tell(2, 255 - (1 << bell));
            Due.due("all others CRACKED but " + bell, x.ringerOf(0, 3), 19);
            x.tell(2, 1 << bell);
            Due.due("CRACKED " + bell, x.ringerOf(0, 3), 50);
            x.tell(2, 0);
            Due.due("mended " + bell, x.ringerOf(0, 3), 19);
        }
    }

    private static void slipBounds() {
        for (int cracked : new int[] {0, 255}) {
            for (int kind = 0; kind <= 5; kind++) {
                for (int a = 0; a <= 9; a++) {
                    RungBackwards x = new RungBackwards();
                    x.tell(2, cracked);
                    x.ringer(kind, a, 0);
                    int slip = x.ringerOf(0, 3);
                    Due.due("SLIP of " + kind + ", " + a + " is " + slip + ", within", slip >= 0 && slip <= 99 ? 1 : 0, 1);
                    Due.due("by whose(0)", x.whose(0), 1);
                    Due.due("by whose(slip)", x.whose(slip), 1);
                    Due.due("by whose(slip + 1)", x.whose(slip + 1), 0);
                }
            }
        }
    }

    private static void well() {
        RungBackwards x = new RungBackwards();
        Due.due("nobody there", x.well(0), 1000000);
        int[][] ringers = {{CURATE, 7}, {RINGER, 0}, {OLD, 6}, {OLD, 6}, {LEARNER, 4}, {RINGER, 4}};
        for (int[] r : ringers) {
            x.ringer(r[0], r[1], 0);
        }
        // SLIPS 26, 10, 10, 10, 42, 14; the other way round it would be 269082.
        long[] due = {1000000, 740000, 900000, 666000};
        Edge.each("well", () -> x, (y, v) -> y.well(v), due);
        Due.due("the last alone", x.well(32), 860000);
        Due.due("the last two", x.well(48), 498800);
        Due.due("all six, cut by numbers", x.well(63), 269081);
        RungBackwards y = new RungBackwards();
        int[][] same = {{RINGER, 4}, {LEARNER, 4}, {OLD, 6}, {OLD, 6}, {RINGER, 0}, {CURATE, 7}};
        for (int[] r : same) {
            y.ringer(r[0], r[1], 0);
        }
        Due.due("the same six in another order", y.well(63), 269082);
        RungBackwards z = Due.steeple();
        z.tell(2, 8);
        Due.due("a DEAF one, CRACKED", z.well(8), 500000);
        Due.due("he and another", z.well(9), 435000);
    }

    private static void stands() {
        RungBackwards x = Towers.things(3);
        x.hang(2, 0, 1);
        x.hang(2, 1, 1);
        // What has BEEN, as bits, and what STANDS then.
        int[] due = {0, 1, 2, 3, 0, 1, 2, 7};
        for (int been = 0; been < 8; been++) {
            for (int i = 0; i < 3; i++) {
                x.give(i, 3, been >> i & 1);
            }
            Due.due("all STAND of " + been, x.all(0), due[been]);
            for (int i = 0; i < 3; i++) {
                Due.due(i + " STANDS of " + been, x.thingOf(i, 5), due[been] >> i & 1);
            }
        }
        RungBackwards ladder = Towers.ladder();
        Due.due("ten on one another", ladder.all(0), 1023);
        ladder.give(9, 3, 0);
        Due.due("without the last", ladder.all(0), 511);
        ladder.give(9, 3, 1);
        ladder.give(0, 3, 0);
        Due.due("without the first none STANDS", ladder.all(0), 0);
        Due.due("though nine have BEEN", ladder.all(2), 1022);
        Due.due("the last doesn't", ladder.thingOf(9, 5), 0);
        Due.due("nothing", new RungBackwards().all(0), 0);
        RungBackwards shut = Towers.ladder();
        shut.tell(2, 255);
        shut.tell(0, 3);
        Due.due("WEATHER and CRACKS are nothing to it", shut.all(0), 1023);
    }

    private static void open() {
        int[] shut = {257, 514, 4, 8, 16, 32, 64, 128};
        for (int bell = 0; bell <= 7; bell++) {
            RungBackwards x = Towers.tenThings();
            x.tell(2, 1 << bell);
            for (int i = 0; i < 10; i++) {
                Due.due(i + " is OPEN, " + bell + " CRACKED", x.thingOf(i, 6), 1 - (shut[bell] >> i & 1));
            }
            x.tell(2, 255 - (1 << bell));
            for (int i = 0; i < 10; i++) {
                Due.due(i + " is OPEN, all CRACKED but " + bell, x.thingOf(i, 6), shut[bell] >> i & 1);
            }
        }
    }

    private static void mayBack() {
        for (int weather = 0; weather <= 3; weather++) {
            RungBackwards x = new RungBackwards();
            for (int i = 0; i <= 3; i++) {
                x.thing(0, i);
            }
            x.tell(0, weather);
            Due.due("in WEATHER " + weather, x.all(3), 1 << weather);
            Due.due("it MAY", x.thingOf(weather, 7), 1);
            Due.due("the next MAY not", x.thingOf((weather + 1) % 4, 7), 0);
            x.tell(2, 1 << weather);
            Due.due("not OPEN", x.thingOf(weather, 7), 0);
            Due.due("none, not OPEN", x.all(3), 0);
            x.tell(2, 255 - (1 << weather));
            Due.due("OPEN alone", x.all(3), 1 << weather);
            x.give(weather, 3, 0);
            Due.due("hasn't BEEN", x.all(3), 0);
        }
        RungBackwards x = Towers.ladder();
        x.give(0, 3, 0);
        Due.due("it needn't STAND", x.all(3), 1022);
    }

    private static void mayForwards() {
        for (int weather = 0; weather <= 3; weather++) {
            RungBackwards x = new RungBackwards();
            for (int i = 0; i <= 3; i++) {
                x.thing(0, i);
                x.give(i, 3, 0);
            }
            x.tell(0, weather);
            Due.due("any WEATHER", x.all(4), 15);
            x.tell(2, 2);
            Due.due("not OPEN", x.all(4), 13);
            Due.due("MAY not", x.thingOf(1, 7), 0);
            Due.due("MAY", x.thingOf(2, 7), 2);
            x.give(2, 3, 1);
            Due.due("has BEEN", x.all(4), 9);
            for (int i : new int[] {0, 3}) {
                x.ring(i);
                Due.due("it has BEEN", x.thingOf(i, 3), 1);
                Due.due("its WEATHER is the one now", x.thingOf(i, 1), weather);
                Due.due("it MAY be rung back at once", x.thingOf(i, 7), 1);
            }
        }
        RungBackwards x = Towers.ladder();
        x.give(0, 3, 0);
        x.give(9, 3, 0);
        Due.due("what it hangs on needn't STAND", x.all(4), 513);
        Due.due("it is rung, and doesn't STAND", x.ring(9), 0);
    }

    private static void ageLess() {
        int[][] ages = {{0, 0}, {1, 0}, {2, 1}, {98, 97}, {99, 98}};
        for (int[] age : ages) {
            RungBackwards x = Towers.twoThings();
            x.give(0, 2, age[0]);
            x.give(1, 2, age[0]);
            x.give(0, 3, 0);
            x.ring(0);
            Due.due("AGE " + age[0] + " rung forwards", x.thingOf(0, 2), age[1]);
            x.ring(1);
            Due.due("AGE " + age[0] + " rung back", x.thingOf(1, 2), age[0]);
        }
    }

    private static void rungBack() {
        RungBackwards x = Towers.ladder();
        x.give(5, 2, 7);
        x.give(5, 0, 9);
        Due.due("VALUE then", x.ring(5), 5);
        int[] due = {9, 0, 7, 0, 16, 0, 1, 2};
        for (int what = 0; what <= 7; what++) {
            Due.due("of it, " + what, x.thingOf(5, what), due[what]);
        }
        Due.due("others have BEEN", x.all(2), 1023 - 32);
    }

    private static void off() {
        RungBackwards x = Towers.ladder();
        Due.due("by the first all", x.off(0), 1023);
        Due.due("by the last itself", x.off(9), 512);
        x.give(5, 3, 0);
        Due.due("what doesn't STAND isn't OFF", x.off(0), 31);
        Due.due("by one that hasn't BEEN", x.off(5), 0);
        Due.due("by one that doesn't STAND", x.off(6), 0);
        Due.due("the last that STANDS", x.off(4), 16);
    }
}
