/** Promises 9 to 18: things, ringers, what is told, THE TAPE. */
final class MakingPromises {
    private static final String THING = "Promise 9: thing";
    private static final String RINGER = "Promise 10: ringer";
    private static final String HANG = "Promise 11: hang";
    private static final String GIVE = "Promise 12: give";
    private static final String TELL = "Promise 13: tell";
    private static final String FEED = "Promise 14: feed";
    private static final String WIPE = "Promise 15: wipe";
    private static final String TOWER = "Promise 16: tower";
    private static final String THING_OF = "Promise 17: thingOf";
    private static final String RINGER_OF = "Promise 18: ringerOf";

    private MakingPromises() {
    }

    static void all() {
        Edge.of(THING, "A THING that hangs on nothing: the number.", MakingPromises::thing);
        Edge.of(THING, "BAD; FULL.", MakingPromises::thingRefused);
        Edge.of(RINGER, "A RINGER: the number.", MakingPromises::ringer);
        Edge.of(RINGER, "BAD; FULL.", MakingPromises::ringerRefused);
        Edge.of(HANG, "A THING hangs on a lesser one, or not (on 1, 0): what it was.", MakingPromises::hang);
        Edge.of(HANG, "BAD.", MakingPromises::hangBad);
        Edge.of(GIVE, "WORTH (what 0), its WEATHER (1), AGE (2), whether it has BEEN (3; 1, 0) of a THING becomes v: what "
            + "it was.", MakingPromises::give);
        Edge.of(GIVE, "BAD.", MakingPromises::giveBad);
        Edge.of(TELL, "WEATHER now (what 0), YEAR (1), CRACKED (2; bits, 0 to 255) becomes v: what it was.",
            MakingPromises::tell);
        Edge.of(TELL, "BAD.", MakingPromises::tellBad);
        Edge.of(FEED, "THE TAPE gets one byte (0 to 255) behind it: its size.", MakingPromises::feed);
        Edge.of(FEED, "BAD; FULL.", MakingPromises::feedRefused);
        Edge.of(WIPE, "THE TAPE is empty: its size ahead.", MakingPromises::wipe);
        Edge.of(TOWER, "THE TAPE is a TOWER: how many STATEMENTS;", MakingPromises::tower);
        Edge.of(TOWER, "-20 less the FAULT (that is refused, too: BAD).", MakingPromises::towerFault);
        Edge.of(TOWER, "THE TAPE is empty then, either way.", MakingPromises::tapeEmpty);
        Edge.of(THING_OF, "Of a THING: WORTH (0), its WEATHER (1), AGE (2), whether it has BEEN (3), what it hangs on (4; "
            + "bits), whether it STANDS (5), is OPEN (6), MAY be rung (7: 1 back, 2 forwards, 0 neither).",
            MakingPromises::thingOf);
        Edge.of(THING_OF, "BAD.", MakingPromises::thingOfBad);
        Edge.of(RINGER_OF, "Of a RINGER: KIND (0), a (1), BELL (2), SLIP (3).", MakingPromises::ringerOf);
        Edge.of(RINGER_OF, "BAD.", MakingPromises::ringerOfBad);
    }

    private static void thing() {
        RungBackwards x = new RungBackwards();
        int[][] made = {{0, 0}, {99, 3}, {0, 3}, {99, 0}, {1, 1}, {98, 2}, {50, 0}, {7, 3}, {8, 2}, {9, 1}};
        for (int i = 0; i < 10; i++) {
            Due.due("the number", x.thing(made[i][0], made[i][1]), i);
            int[] due = {made[i][0], made[i][1], 0, 1, 0, 1, 1};
            for (int what = 0; what <= 6; what++) {
                Due.due("of " + i + ", " + what, x.thingOf(i, what), due[what]);
            }
        }
        RungBackwards z = new RungBackwards();
        z.image();
        z.thing(1, 1);
        z.thing(1, 1);
        z.hang(1, 0, 1);
        z.give(1, 2, 9);
        z.give(1, 3, 0);
        z.back();
        z.thing(2, 2);
        Due.due("a number that was another's", z.thing(3, 3), 1);
        int[] due = {3, 3, 0, 1, 0, 1, 1};
        for (int what = 0; what <= 6; what++) {
            Due.due("it has nothing of that one, " + what, z.thingOf(1, what), due[what]);
        }
    }

    private static void thingRefused() {
        Edge.bounds("thing(v, 0)", Towers::rich, (x, v) -> x.thing(v, 0), 0, 99);
        Edge.bounds("thing(0, v)", Towers::rich, (x, v) -> x.thing(0, v), 0, 3);
        Edge.taken("the 10th", Towers::nineThings, (x, v) -> x.thing(v, 0), 0, 99);
        Due.refused("the 11th", Towers::tenThings, x -> x.thing(0, 0), Due.FULL);
        Due.refused("the 11th, BAD", Towers::tenThings, x -> x.thing(-1, 0), Due.BAD);
    }

    private static void ringer() {
        RungBackwards x = new RungBackwards();
        int[][] made = {{0, 0, 0}, {5, 9, 7}, {1, 0, 7}, {2, 9, 0}, {3, 5, 3}, {4, 4, 4}};
        for (int i = 0; i < 6; i++) {
            Due.due("the number", x.ringer(made[i][0], made[i][1], made[i][2]), i);
            for (int what = 0; what <= 2; what++) {
                Due.due("of " + i + ", " + what, x.ringerOf(i, what), made[i][what]);
            }
        }
    }

    private static void ringerRefused() {
        Edge.bounds("ringer(v, 0, 0)", Towers::rich, (x, v) -> x.ringer(v, 0, 0), 0, 5);
        Edge.bounds("ringer(0, v, 0)", Towers::rich, (x, v) -> x.ringer(0, v, 0), 0, 9);
        Edge.bounds("ringer(0, 0, v)", Towers::rich, (x, v) -> x.ringer(0, 0, v), 0, 7);
        Edge.taken("the 6th", () -> Towers.ringers(5), (x, v) -> x.ringer(v, 0, 0), 0, 5);
        Due.refused("the 7th", Towers::sixRingers, x -> x.ringer(0, 0, 0), Due.FULL);
        Due.refused("the 7th, BAD", Towers::sixRingers, x -> x.ringer(-1, 0, 0), Due.BAD);
    }

    private static void hang() {
        RungBackwards x = Towers.tenThings();
        int[][] pairs = {{1, 0}, {9, 0}, {9, 8}, {5, 3}};
        for (int[] p : pairs) {
            Due.due("not off nothing", x.hang(p[0], p[1], 0), 0);
            Due.due("on", x.hang(p[0], p[1], 1), 0);
            Due.due("on again", x.hang(p[0], p[1], 1), 1);
            Due.due("it hangs", x.thingOf(p[0], 4) >> p[1] & 1, 1);
        }
        Due.due("9 on both", x.thingOf(9, 4), 257);
        Due.due("off", x.hang(9, 8, 0), 1);
        Due.due("off again", x.hang(9, 8, 0), 0);
        Due.due("9 on the other one", x.thingOf(9, 4), 1);
        Due.due("1 as it was", x.thingOf(1, 4), 1);
    }

    private static void hangBad() {
        Edge.bounds("hang(v, 0, 1)", Towers::rich, (x, v) -> x.hang(v, 0, 1), 1, 5);
        Edge.bounds("hang(v, 0, 1), of 10", Towers::tenThings, (x, v) -> x.hang(v, 0, 1), 1, 9);
        Edge.bounds("hang(5, v, 0)", Towers::rich, (x, v) -> x.hang(5, v, 0), 0, 4);
        Edge.bounds("hang(1, v, 1)", Towers::rich, (x, v) -> x.hang(1, v, 1), 0, 0);
        Edge.bounds("hang(5, 0, v)", Towers::rich, (x, v) -> x.hang(5, 0, v), 0, 1);
        Edge.bad("hang(v, v, 1)", Towers::rich, (x, v) -> x.hang(v, v, 1), 0, 3, 5, 6);
        Edge.bad("hang(6, v, 1), that isn't there", Towers::rich, (x, v) -> x.hang(6, v, 1), 0, 5);
        Edge.bad("hang of nothing", RungBackwards::new, (x, v) -> x.hang(v, 0, 1), 0, 1);
    }

    private static void give() {
        int[] most = {99, 3, 99, 1};
        int[] ahead = {1, 0, 0, 1};
        for (int thing : new int[] {0, 9}) {
            for (int what = 0; what <= 3; what++) {
                RungBackwards x = Towers.tenThings();
                Due.due("the most", x.give(thing, what, most[what]), ahead[what]);
                Due.due("it is", x.thingOf(thing, what), most[what]);
                Due.due("the least", x.give(thing, what, 0), most[what]);
                Due.due("it is", x.thingOf(thing, what), 0);
                Due.due("the least again", x.give(thing, what, 0), 0);
                for (int other = 0; other <= 3; other++) {
                    Due.due("else " + other, x.thingOf(thing, other), other == what ? 0 : ahead[other]);
                    Due.due("of another", x.thingOf(5, other), ahead[other]);
                }
            }
        }
        RungBackwards x = Towers.ladder();
        x.tell(2, 255);
        Due.due("BEEN needn't be OPEN", x.give(0, 3, 0), 1);
        Due.due("none STANDS", x.all(0), 0);
        Due.due("its WEATHER is left", x.thingOf(0, 1), 0);
    }

    private static void giveBad() {
        int[] most = {99, 3, 99, 1};
        for (int what = 0; what <= 3; what++) {
            int told = what;
            Edge.bounds("give(5, " + what + ", v)", Towers::rich, (x, v) -> x.give(5, told, v), 0, most[what]);
            Edge.bounds("give(v, " + what + ", 0)", Towers::rich, (x, v) -> x.give(v, told, 0), 0, 5);
            Edge.bounds("give(v, " + what + ", 1), of 10", Towers::tenThings, (x, v) -> x.give(v, told, 1), 0, 9);
            Edge.bad("give of nothing", RungBackwards::new, (x, v) -> x.give(v, told, 0), 0);
        }
        Edge.bounds("give(0, what, 0)", Towers::rich, (x, v) -> x.give(0, v, 0), 0, 3);
    }

    private static void tell() {
        int[] most = {3, 999, 255};
        for (int what = 0; what <= 2; what++) {
            RungBackwards x = new RungBackwards();
            Due.due("the most", x.tell(what, most[what]), 0);
            Due.due("it is", x.status(2 + what), most[what]);
            Due.due("1", x.tell(what, 1), most[what]);
            Due.due("the least", x.tell(what, 0), 1);
            Due.due("it is", x.status(2 + what), 0);
        }
        int[] apart = {2, 5, 9};
        for (int what = 0; what <= 2; what++) {
            RungBackwards x = new RungBackwards();
            for (int other = 0; other <= 2; other++) {
                x.tell(other, apart[other]);
            }
            Due.due("what it was", x.tell(what, 3), apart[what]);
            for (int other = 0; other <= 2; other++) {
                Due.due("of " + other, x.status(2 + other), other == what ? 3 : apart[other]);
            }
        }
    }

    private static void tellBad() {
        Edge.bounds("tell(0, v)", Towers::rich, (x, v) -> x.tell(0, v), 0, 3);
        Edge.bounds("tell(1, v)", Towers::rich, (x, v) -> x.tell(1, v), 0, 999);
        Edge.bounds("tell(2, v)", Towers::rich, (x, v) -> x.tell(2, v), 0, 255);
        Edge.bounds("tell(what, 0)", Towers::rich, (x, v) -> x.tell(v, 0), 0, 2);
    }

    private static void feed() {
        RungBackwards x = new RungBackwards();
        for (int size = 1; size <= 250; size++) {
            Due.due("size", x.feed(size == 1 ? 0 : size == 250 ? 255 : 32), size);
        }
        Due.due("status", x.status(6), 250);
        RungBackwards y = new RungBackwards();
        Due.due("it comes behind", Due.feed(y, "year 1"), 6);
        Due.due("still", Due.feed(y, "2"), 7);
        Due.due("a TOWER", y.tower(), 1);
        Due.due("YEAR", y.status(3), 12);
    }

    private static void feedRefused() {
        Edge.bounds("feed(v)", RungBackwards::new, (x, v) -> x.feed(v), 0, 255);
        Edge.bounds("feed(v), the 250th", () -> fed(249), (x, v) -> x.feed(v), 0, 255);
        for (int letter : new int[] {0, 32, 255}) {
            Due.refused("the 251st", () -> fed(250), x -> x.feed(letter), Due.FULL);
        }
        Edge.bad("the 251st", () -> fed(250), (x, v) -> x.feed(v), -1, 256);
    }

    private static RungBackwards fed(int n) {
        RungBackwards x = new RungBackwards();
        for (int i = 0; i < n; i++) {
            x.feed(59);
        }
        return x;
    }

    private static void wipe() {
        for (int n : new int[] {0, 1, 249, 250}) {
            RungBackwards x = fed(n);
            Due.due("size ahead", x.wipe(), n);
            Due.due("empty", x.status(6), 0);
            Due.due("size ahead again", x.wipe(), 0);
            Due.due("there is room again", Due.feed(x, "year 5"), 6);
            Due.due("nothing of before is read", x.tower(), 1);
        }
        RungBackwards x = Towers.rich();
        Due.due("wipe", x.wipe(), 13);
        Due.counted("wipe", x, Towers.rich(), 0);
        Due.due("nothing else changes", x.status(3), 345);
    }

    private static void tower() {
        Edge.reads(Due::steeple, "year 1", 1);
        Edge.reads(Due::steeple, "year 1;year 2;said 4", 3);
        Edge.reads(Towers::noThings, "mend0;".repeat(40) + "mend7", 41);
        RungBackwards x = Towers.rich();
        Due.due("what was fed by and by", x.tower(), 2);
        Due.due("YEAR", x.status(3), 5);
        Due.due("BEEN", x.all(2), 63);
    }

    private static void towerFault() {
        RungBackwards empty = new RungBackwards();
        Due.due("an empty TAPE", empty.tower(), -20);
        Due.due("it is BAD", empty.status(12), 1);
        Edge.fault(Due::steeple, "1", 0);
        Edge.fault(Due::steeple, " 1", 1);
        Edge.fault(Due::steeple, " ".repeat(249) + "1", 249);
        Edge.fault(Due::steeple, " ".repeat(250), 250);
        Edge.fault(Due::steeple, " ".repeat(245) + "year ", 250);
    }

    private static void tapeEmpty() {
        RungBackwards x = new RungBackwards();
        Due.read(x, "year 5");
        Due.due("behind a TOWER", x.status(6), 0);
        Due.due("nothing is left to read", x.tower(), -20);
        Due.read(x, "year 5 5");
        Due.due("behind a FAULT", x.status(6), 0);
        Due.due("nothing is left to read", x.tower(), -20);
        Due.due("nothing is left to wipe", x.wipe(), 0);
        Due.due("FAULTS", x.status(12), 3);
        Due.due("a TOWER behind FAULTS is one", Due.read(x, "year 7"), 1);
        Due.due("FAULTS still", x.status(12), 3);
        RungBackwards full = fed(250);
        Due.due("250 SIGNS", full.tower(), -20);
        Due.due("there is room again", full.feed(32), 1);
    }

    private static void thingOf() {
        RungBackwards x = Towers.thicket();
        x.give(9, 0, 99);
        x.give(9, 2, 98);
        int[][] due = {{1, 0, 0, 1, 0, 1, 1, 1}, {99, 0, 98, 1, 511, 1, 1, 1}};
        for (int what = 0; what <= 7; what++) {
            Due.due("of the first, " + what, x.thingOf(0, what), due[0][what]);
            Due.due("of the last, " + what, x.thingOf(9, what), due[1][what]);
        }
        x.give(0, 3, 0);
        x.give(9, 1, 3);
        x.tell(2, 2);
        int[][] then = {{1, 0, 0, 0, 0, 0, 1, 2}, {99, 3, 98, 1, 511, 0, 0, 0}};
        for (int what = 0; what <= 7; what++) {
            Due.due("then of the first, " + what, x.thingOf(0, what), then[0][what]);
            Due.due("then of the last, " + what, x.thingOf(9, what), then[1][what]);
        }
    }

    private static void thingOfBad() {
        for (int what = 0; what <= 7; what++) {
            int told = what;
            Edge.bounds("thingOf(v, " + what + ")", Towers::rich, (x, v) -> x.thingOf(v, told), 0, 5);
            Edge.bounds("thingOf(v, " + what + "), of 10", Towers::tenThings, (x, v) -> x.thingOf(v, told), 0, 9);
            Edge.bad("thingOf of nothing", RungBackwards::new, (x, v) -> x.thingOf(v, told), 0);
        }
        Edge.bounds("thingOf(0, what)", Towers::rich, (x, v) -> x.thingOf(0, v), 0, 7);
    }

    private static void ringerOf() {
        RungBackwards x = new RungBackwards();
        int[][] made = {{0, 0, 0, 10}, {5, 9, 7, 19}, {1, 9, 0, 57}, {2, 9, 7, 10}, {3, 0, 0, 15}, {4, 9, 7, 5}};
        for (int[] m : made) {
            x.ringer(m[0], m[1], m[2]);
        }
        for (int i = 0; i < 6; i++) {
            for (int what = 0; what <= 3; what++) {
                Due.due("of " + i + ", " + what, x.ringerOf(i, what), made[i][what]);
            }
        }
        x.tell(2, 128);
        Due.due("of the DEAF one, CRACKED", x.ringerOf(1, 3), 50);
        Due.due("of another on that BELL", x.ringerOf(3, 3), 10);
    }

    private static void ringerOfBad() {
        for (int what = 0; what <= 3; what++) {
            int told = what;
            Edge.bounds("ringerOf(v, " + what + ")", Towers::rich, (x, v) -> x.ringerOf(v, told), 0, 3);
            Edge.bounds("ringerOf(v, " + what + "), of 6", Towers::sixRingers, (x, v) -> x.ringerOf(v, told), 0, 5);
            Edge.bad("ringerOf of nobody", RungBackwards::new, (x, v) -> x.ringerOf(v, told), 0);
        }
        Edge.bounds("ringerOf(0, what)", Towers::rich, (x, v) -> x.ringerOf(0, v), 0, 3);
    }
}
