/** Promises 53 to 61: told peals, what is rung in truth, images, status. */
final class TruthPromises {
    private static final String JUDGE = "Promise 53: judge";
    private static final String BEHIND = "Promise 54: behind";
    private static final String RING = "Promise 55: ring";
    private static final String DAY = "Promise 56: day";
    private static final String YEARS = "Promise 57: years";
    private static final String SEED = "Promise 58: seed";
    private static final String IMAGE = "Promise 59: image";
    private static final String BACK = "Promise 60: back";
    private static final String STATUS = "Promise 61: status";

    private TruthPromises() {
    }

    static void all() {
        Edge.of(JUDGE, "A told PEAL by the first n elements (0 to 40) of the ROW in SHELF s: WRONG; NONE.",
            TruthPromises::judge);
        Edge.of(JUDGE, "BAD SHELF, n; OTHER; NOTHING; BAD: fewer elements.",
            () -> pealRefused("judge", (x, s, n) -> x.judge(s, n)));
        Edge.of(BEHIND, "BEHIND it: what STANDS (what 0), VALUE (1).", TruthPromises::behind);
        Edge.of(BEHIND, "BAD SHELF, n, what; OTHER; NOTHING; BAD: fewer elements; STUCK: it is WRONG.",
            TruthPromises::behindRefused);
        Edge.of(RING, "A THING is rung in truth, back or forwards: VALUE then.", TruthPromises::ring);
        Edge.of(RING, "BAD; STUCK: it MAY not.", TruthPromises::ringRefused);
        Edge.of(DAY, "A day passes in truth: WEATHER then.", TruthPromises::day);
        Edge.of(YEARS, "YEARS by draws (n 1 to 60): how many were rung.", TruthPromises::years);
        Edge.of(YEARS, "BAD; STUCK: no THINGS.", TruthPromises::yearsRefused);
        Edge.of(SEED, "SEED becomes v: the one ahead.", TruthPromises::seed);
        Edge.of(IMAGE, "All is kept, but THE TAPE, SHELVES and REFUSALS: 1.", TruthPromises::image);
        Edge.of(BACK, "All is again as it was kept", TruthPromises::back);
        Edge.of(BACK, "(SHELVES with RINGERS hold those of the same numbers, or NOTHING): 1.", TruthPromises::backShelves);
        Edge.of(BACK, "STUCK: nothing was.", TruthPromises::backStuck);
        Edge.of(STATUS, "THINGS (0), RINGERS (1), WEATHER (2), YEAR (3), CRACKED (4; bits), VALUE (5), THE TAPE's size (6), "
            + "SEED (7), SHELVES that hold something (8);", TruthPromises::status);
        Edge.of(STATUS, "12 to 16: REFUSALS -2 to -6.", TruthPromises::statusOfRefusals);
        Edge.of(STATUS, "NONE another what.", TruthPromises::noStatus);
        Edge.of("What it is", "An object is used for at most 512 calls after it has been made;", TruthPromises::calls);
    }

    // ---- told peals

    private interface Peal {
        int of(RungBackwards x, int s, int n);
    }

    private static void judge() {
        // SHELF 5: 0 back, 0 forwards, and 5 MAY not.
        int[] due = {-1, -1, -1, 2};
        for (int n = 0; n <= 3; n++) {
            int told = n;
            Edge.told("the first " + n, Towers::rich, x -> x.judge(5, told), due[n]);
        }
        RungBackwards x = Towers.oneThing();
        x.row(7, 4, 40);
        Due.due("40", x.judge(7, 40), -1);
        Due.due("none", x.judge(7, 0), -1);
        x.set(7, 39, 1);
        Due.due("the 40th isn't there", x.judge(7, 40), 39);
        Due.due("39", x.judge(7, 39), -1);
        x.set(7, 0, 1);
        Due.due("the first isn't there", x.judge(7, 40), 0);
    }

    private static void pealRefused(String call, Peal peal) {
        Edge.bad(call + "(s, 0)", Towers::rich, (x, v) -> peal.of(x, v, 0), -1, 8, Integer.MIN_VALUE, Integer.MAX_VALUE);
        Edge.taken(call + "(s, 0)", TruthPromises::eightRows, (x, v) -> peal.of(x, v, 0), 0, 7);
        Edge.bad(call + "(0, n)", Towers::rich, (x, v) -> peal.of(x, 0, v), -1, 41, Integer.MIN_VALUE, Integer.MAX_VALUE);
        Edge.bad(call + "(2, n)", Towers::rich, (x, v) -> peal.of(x, 2, v), -1, 41);
        Edge.bad(call + "(4, n)", Towers::rich, (x, v) -> peal.of(x, 4, v), -1, 41);
        for (int n : new int[] {0, 40}) {
            Due.refused(call + " of a RINGER, " + n, Towers::rich, x -> peal.of(x, 2, n), Due.OTHER);
            Due.refused(call + " of NOTHING, " + n, Towers::rich, x -> peal.of(x, 4, n), Due.NOTHING);
        }
        for (int size : new int[] {0, 1, 39}) {
            Edge.taken(call + " of all " + size, () -> oneRow(size), (x, v) -> peal.of(x, 7, v), 0, size);
            Edge.bad(call + " of fewer than " + size, () -> oneRow(size), (x, v) -> peal.of(x, 7, v), size + 1, 40);
        }
        Edge.bounds(call + " of 40", () -> oneRow(40), (x, v) -> peal.of(x, 7, v), 0, 40);
    }

    private static RungBackwards eightRows() {
        RungBackwards x = Towers.oneThing();
        for (int s = 0; s <= 7; s++) {
            x.row(s, s % 5, s);
        }
        return x;
    }

    /** A ROW of so many in the last SHELF, all THING 0. */
    private static RungBackwards oneRow(int n) {
        RungBackwards x = Towers.oneThing();
        x.row(7, 2, n);
        return x;
    }

    private static void behind() {
        int[][] due = {{47, 121}, {4, 7}, {47, 121}};
        for (int n = 0; n < due.length; n++) {
            for (int what = 0; what <= 1; what++) {
                int told = n;
                int asked = what;
                Edge.told("the first " + n + ", " + what, Towers::rich, x -> x.behind(5, told, asked), due[n][what]);
            }
        }
        Edge.told("39 of one THING", () -> oneRow(40), x -> x.behind(7, 39, 0), 0);
        Edge.told("40 of one THING", () -> oneRow(40), x -> x.behind(7, 40, 0), 1);
    }

    private static void behindRefused() {
        pealRefused("behind, STANDS", (x, s, n) -> x.behind(s, n, 0));
        pealRefused("behind, VALUE", (x, s, n) -> x.behind(s, n, 1));
        Edge.bounds("behind(5, 2, what)", Towers::rich, (x, v) -> x.behind(5, 2, v), 0, 1);
        Edge.bad("behind(2, 0, what)", Towers::rich, (x, v) -> x.behind(2, 0, v), -1, 2);
        Edge.bad("behind(4, 0, what)", Towers::rich, (x, v) -> x.behind(4, 0, v), -1, 2);
        Edge.bad("behind(5, 3, what)", Towers::rich, (x, v) -> x.behind(5, 3, v), -1, 2);
        Due.refused("it is WRONG", Towers::rich, x -> x.behind(5, 3, 0), Due.STUCK);
        Due.refused("it is WRONG", Towers::rich, x -> x.behind(5, 3, 1), Due.STUCK);
        Due.refused("its first is WRONG", Towers::rich, x -> x.behind(3, 1, 0), Due.STUCK);
        Due.refused("nothing is there", () -> withoutThings(1), x -> x.behind(0, 1, 0), Due.STUCK);
        Edge.told("nothing is told", () -> withoutThings(1), x -> x.behind(0, 0, 0), 0);
    }

    private static RungBackwards withoutThings(int n) {
        RungBackwards x = new RungBackwards();
        x.row(0, 0, n);
        return x;
    }

    // ---- in truth

    private static void ring() {
        RungBackwards x = Towers.ladder();
        for (int i = 9; i >= 0; i--) {
            Due.due(i + " back", x.ring(i), i);
        }
        Due.due("none has BEEN", x.all(2), 0);
        x.tell(0, 2);
        for (int i = 0; i < 10; i++) {
            Due.due(i + " forwards", x.ring(i), i + 1);
        }
        Due.due("all in WEATHER 2", x.inWeather(2), 1023);
        Due.due("the first back", x.ring(0), 0);
        Due.due("none STANDS", x.all(0), 0);
        Due.due("nine have BEEN", x.all(2), 1022);
        Due.counted("ringing", x, Towers.ladder(), 0);
    }

    private static RungBackwards shut() {
        RungBackwards x = Due.steeple();
        x.tell(2, 17);
        return x;
    }

    private static void ringRefused() {
        Edge.bad("ring(v)", Towers::rich, (x, v) -> x.ring(v), -1, 6, Integer.MIN_VALUE, Integer.MAX_VALUE);
        Edge.bad("ring(v), of 10", Towers::tenThings, (x, v) -> x.ring(v), -1, 10);
        Edge.taken("ring(v), of 10", Towers::tenThings, (x, v) -> x.ring(v), 0, 9);
        Edge.bad("ring of nothing", RungBackwards::new, (x, v) -> x.ring(v), 0);
        for (int thing : new int[] {1, 3, 5}) {
            Due.refused("of another WEATHER, " + thing, Towers::rich, x -> x.ring(thing), Due.STUCK);
        }
        Due.refused("not OPEN, back", TruthPromises::shut, x -> x.ring(0), Due.STUCK);
        Due.refused("not OPEN, forwards", TruthPromises::shut, x -> x.ring(4), Due.STUCK);
        Edge.taken("OPEN", TruthPromises::shut, (x, v) -> x.ring(v), 2);
    }

    private static void day() {
        RungBackwards x = Towers.rich();
        for (int i = 1; i <= 9; i++) {
            Due.due("day " + i, x.day(), i % 4);
            Due.due("it is", x.status(2), i % 4);
        }
        x.tell(0, 0);
        Due.same("nothing else changes", Due.stateOf(x), Due.stateOf(Towers.rich()));
        Due.counted("day", x, sizesAsked(), 0);
        Due.due("of nothing, too", new RungBackwards().day(), 1);
    }

    /** Rich, with the refusals that asking for its state brings. */
    private static RungBackwards sizesAsked() {
        RungBackwards x = Towers.rich();
        Due.stateOf(x);
        return x;
    }

    private static void years() {
        for (int n : new int[] {1, 2, 59, 60}) {
            RungBackwards at = Due.steeple();
            RungBackwards by = Due.steeple();
            int rung = 0;
            for (int i = 0; i < n; i++) {
                int once = by.years(1);
                Due.due("one a year at most", once == 0 || once == 1 ? 1 : 0, 1);
                rung += once;
            }
            Due.due(n + " at once", at.years(n), rung);
            Due.due("YEAR", at.status(3), n);
            Due.same("as one by one", Due.stateOf(at), Due.stateOf(by));
        }
    }

    private static void yearsRefused() {
        Edge.bounds("years(n)", Towers::rich, (x, v) -> x.years(v), 1, 60);
        Edge.bounds("years(n), of one", Towers::oneThing, (x, v) -> x.years(v), 1, 60);
        for (int n : new int[] {1, 60}) {
            Due.refused("no THINGS", RungBackwards::new, x -> x.years(n), Due.STUCK);
            Due.refused("no THINGS, but RINGERS", Towers::sixRingers, x -> x.years(n), Due.STUCK);
        }
        Edge.bad("no THINGS", RungBackwards::new, (x, v) -> x.years(v), 0, 61, -1);
    }

    private static void seed() {
        RungBackwards x = new RungBackwards();
        int[] seeds = {1, 0, -1, Integer.MAX_VALUE, Integer.MIN_VALUE, 7, 7};
        for (int i = 1; i < seeds.length; i++) {
            Due.due("the one ahead", x.seed(seeds[i]), seeds[i - 1]);
            Due.due("it is", x.status(7), seeds[i]);
        }
        Due.counted("seed", x, new RungBackwards(), 0);
    }

    // ---- images

    private static void image() {
        Edge.told("1", Towers::rich, x -> x.image(), 1);
        Edge.told("of nothing", RungBackwards::new, x -> x.image(), 1);
        RungBackwards x = Towers.rich();
        x.image();
        x.wipe();
        x.row(0, 1, 1);
        x.show(4, 0);
        x.row(8, 0, 0);
        x.back();
        Due.due("THE TAPE isn't kept", x.status(6), 0);
        Due.due("a ROW isn't", x.holds(0), 1);
        Due.due("a RINGER on a SHELF isn't", x.holds(4), 10);
        Due.due("REFUSALS aren't", x.status(12), 1);
        x.day();
        x.image();
        x.day();
        x.back();
        Due.due("the last one counts", x.status(2), 1);
    }

    /** What can be seen of what an image keeps. */
    private static String keptOf(RungBackwards x) {
        for (int s = 0; s <= 7; s++) {
            x.show(s, -1);
        }
        x.wipe();
        return Due.stateOf(x);
    }

    private static void back() {
        String due = keptOf(Due.steeple());
        RungBackwards x = Due.steeple();
        x.image();
        Due.due("back at once", x.back(), 1);
        Due.same("nothing has changed", keptOf(x), due);
        x.thing(1, 1);
        x.hang(6, 5, 1);
        x.free(3);
        x.hang(5, 0, 1);
        x.ringer(0, 0, 0);
        for (int what = 0; what <= 2; what++) {
            x.give(2, what, 2);
            x.tell(what, 3);
        }
        x.give(4, 3, 1);
        x.seed(9);
        Due.due("back", x.back(), 1);
        Due.same("all is as it was", keptOf(x), due);
        x.years(30);
        Due.due("back again", x.back(), 1);
        Due.same("all is as it was, again", keptOf(x), due);
        RungBackwards y = new RungBackwards();
        y.image();
        y.thing(5, 0);
        y.ringer(0, 0, 0);
        y.back();
        Due.due("no THING", y.status(0), 0);
        Due.due("no RINGER", y.status(1), 0);
        Due.due("VALUE", y.status(5), 0);
        RungBackwards z = Towers.thicket();
        z.image();
        z.give(9, 3, 0);
        z.free(9);
        z.back();
        Due.due("ten", z.all(0), 1023);
        Due.due("the last hangs on nine", z.thingOf(9, 4), 511);
    }

    private static void backShelves() {
        for (int kept = 0; kept <= 6; kept++) {
            RungBackwards x = Towers.ringers(kept);
            x.image();
            for (int r = kept; r <= 5; r++) {
                x.ringer(5, 9, 7);
            }
            for (int s = 0; s <= 5; s++) {
                x.show(s, s);
            }
            x.row(6, 2, 3);
            Due.due("back", x.back(), 1);
            for (int s = 0; s <= 5; s++) {
                Due.due("of " + kept + ", SHELF " + s, x.holds(s), s < kept ? 10 + s : -1);
            }
            Due.due("a ROW stays", x.holds(6), 2);
            Due.due("how many hold something", x.status(8), kept + 1);
        }
        RungBackwards x = new RungBackwards();
        x.ringer(0, 0, 3);
        x.image();
        x.show(7, 0);
        RungBackwards y = new RungBackwards();
        y.image();
        y.ringer(0, 0, 3);
        y.show(7, 0);
        y.back();
        y.ringer(1, 1, 1);
        Due.due("a new one isn't on the SHELF", y.holds(7), -1);
        Due.due("he that was kept is", x.back() + x.says(7, 0), 4);
    }

    private static void backStuck() {
        Due.refused("nothing was", RungBackwards::new, x -> x.back(), Due.STUCK);
        Due.refused("nothing was", Due::steeple, x -> x.back(), Due.STUCK);
        Edge.taken("of nothing there", RungBackwards::new, (x, v) -> x.image() + x.back(), 0);
    }

    // ---- status

    private static void status() {
        Edge.each("of a new one", RungBackwards::new, (x, v) -> x.status(v), 0, 0, 0, 0, 0, 0, 0, 1, 0);
        Edge.each("of a rich one", Towers::rich, (x, v) -> x.status(v), 6, 4, 0, 345, 128, 121, 13, 77, 5);
        RungBackwards x = new RungBackwards();
        for (int i = 0; i < 10; i++) {
            x.thing(99, 0);
            x.ringer(0, 0, 0);
            x.row(i, 0, 0);
        }
        for (int i = 0; i < 250; i++) {
            x.feed(0);
        }
        x.tell(0, 3);
        x.tell(1, 999);
        x.tell(2, 255);
        x.seed(Integer.MIN_VALUE);
        Edge.each("of a full one", () -> x, (y, v) -> y.status(v), 10, 6, 3, 999, 255, 990, 250, Integer.MIN_VALUE, 8);
    }

    private static void statusOfRefusals() {
        RungBackwards x = Towers.things(9);
        x.row(0, 0, 1);
        x.ringer(0, 0, 0);
        x.show(1, 0);
        int[] counts = {1, 2, 3, 4, 5};
        for (int i = 0; i < counts[0]; i++) {
            x.row(0, 0, -1);
        }
        for (int i = 0; i < counts[1]; i++) {
            x.set(1, 0, 0);
        }
        for (int i = 0; i < counts[2]; i++) {
            x.set(2, 0, 0);
        }
        for (int i = 0; i < counts[3]; i++) {
            x.back();
        }
        for (int i = 0; i <= counts[4]; i++) {
            x.thing(0, 0);
        }
        for (int what = 12; what <= 16; what++) {
            Due.due("REFUSALS " + (10 - what), x.status(what), counts[what - 12]);
        }
    }

    private static void noStatus() {
        for (int what : new int[] {-1, 9, 10, 11, 17, 18, -12, Integer.MIN_VALUE, Integer.MAX_VALUE}) {
            Edge.told("status " + what, Towers::rich, x -> x.status(what), -1);
        }
    }

    private static void calls() {
        RungBackwards x = new RungBackwards();
        for (int call = 1; call <= 512; call++) {
            Due.due("call " + call, x.day(), call % 4);
        }
    }
}
