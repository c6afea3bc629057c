/** Promises 53 to 61: told peals, ringing in truth, years by draws, images, status. */
public final class RingingTest {
    public static void main(String[] args) {
        judge();
        behind();
        ring();
        day();
        seedAndDraws();
        years();
        yearsWithRingers();
        image();
        back();
        status();
        Due.end();
    }

    private static void put(RungBackwards x, int s, int sort, long... elements) {
        x.row(s, sort, elements.length);
        for (int i = 0; i < elements.length; i++) {
            x.set(s, i, elements[i]);
        }
    }

    private static RungBackwards shelved() {
        RungBackwards x = Due.steeple();
        put(x, 0, 2, 0, 0, 5);
        x.show(1, 0);
        return x;
    }

    private static void judge() {
        RungBackwards x = shelved();
        int[] due = {-1, -1, -1, 2};
        for (int n = 0; n <= 3; n++) {
            Due.due("judge " + n, x.judge(0, n), due[n]);
        }
        Due.due("NONE isn't refused", x.status(12), 0);
        Due.due("nothing is rung", x.all(2), 47);
        put(x, 2, 3, 4, 6, 0);
        Due.due("6 isn't there", x.judge(2, 3), 1);
        put(x, 2, 3, 1L << 32, 0);
        Due.due("a number beyond ints isn't there", x.judge(2, 2), 0);
        put(x, 2, 0, -1);
        Due.due("-1 isn't there", x.judge(2, 1), 0);
        put(x, 2, 4, 0, 0, 1);
        Due.due("booleans are 1, 0", x.judge(2, 3), 2);
        put(x, 2, 1, 4, 4, 4);
        x.tell(0, 3);
        Due.due("rung forwards, it is of the weather now", x.judge(2, 3), -1);
        x.tell(2, 16);
        Due.due("shut", x.judge(2, 3), 0);
        x.row(3, 0, 40);
        x.tell(0, 0);
        Due.due("a whole row", x.judge(3, 40), -1);
        refusals("judge", (y, s, n) -> y.judge(s, n));
    }

    private interface Asking {
        int of(RungBackwards x, int s, int n);
    }

    private static void refusals(String call, Asking asking) {
        Due.refused(call + " -1", RingingTest::shelved, y -> asking.of(y, -1, 0), Due.BAD);
        Due.refused(call + " 8", RingingTest::shelved, y -> asking.of(y, 8, 0), Due.BAD);
        Due.refused(call + " n -1", RingingTest::shelved, y -> asking.of(y, 1, -1), Due.BAD);
        Due.refused(call + " n 41", RingingTest::shelved, y -> asking.of(y, 2, 41), Due.BAD);
        Due.refused(call + " ringer", RingingTest::shelved, y -> asking.of(y, 1, 40), Due.OTHER);
        Due.refused(call + " nothing", RingingTest::shelved, y -> asking.of(y, 2, 40), Due.NOTHING);
        Due.refused(call + " fewer", RingingTest::shelved, y -> asking.of(y, 0, 4), Due.BAD);
    }

    private static void behind() {
        RungBackwards x = shelved();
        int[][] due = {{47, 121}, {4, 7}, {47, 121}};
        for (int n = 0; n < due.length; n++) {
            Due.due("behind " + n + " stands", x.behind(0, n, 0), due[n][0]);
            Due.due("behind " + n + " value", x.behind(0, n, 1), due[n][1]);
        }
        Due.due("nothing is rung", x.all(0), 47);
        refusals("behind", (y, s, n) -> y.behind(s, n, 0));
        Due.refused("behind what 2", RingingTest::shelved, y -> y.behind(1, 0, 2), Due.BAD);
        Due.refused("behind what -1", RingingTest::shelved, y -> y.behind(2, 0, -1), Due.BAD);
        Due.refused("behind a wrong one", RingingTest::shelved, y -> y.behind(0, 3, 0), Due.STUCK);
        Due.refused("behind a wrong one", RingingTest::shelved, y -> y.behind(0, 3, 1), Due.STUCK);
    }

    private static void ring() {
        RungBackwards x = Due.steeple();
        x.give(4, 2, 5);
        x.give(4, 1, 3);
        Due.due("forwards", x.ring(4), 133);
        Due.due("age is 1 less", x.thingOf(4, 2), 4);
        Due.due("weather is the one now", x.thingOf(4, 1), 0);
        x.give(0, 2, 7);
        Due.due("back", x.ring(0), 19);
        Due.due("age is left", x.thingOf(0, 2), 7);
        Due.due("it hasn't been", x.thingOf(0, 3), 0);
        x.tell(0, 2);
        x.give(0, 2, 0);
        Due.due("forwards in any weather", x.ring(0), 133);
        Due.due("weather", x.thingOf(0, 1), 2);
        Due.due("age 0 at least", x.thingOf(0, 2), 0);
        Due.refused("another weather", Due::steeple, y -> y.ring(1), Due.STUCK);
        Due.refused("shut back", RingingTest::shut, y -> y.ring(0), Due.STUCK);
        Due.refused("shut forwards", RingingTest::shut, y -> y.ring(4), Due.STUCK);
        Due.refused("thing 6", Due::steeple, y -> y.ring(6), Due.BAD);
        Due.refused("thing -1", Due::steeple, y -> y.ring(-1), Due.BAD);
    }

    private static RungBackwards shut() {
        RungBackwards x = Due.steeple();
        x.tell(2, 255);
        return x;
    }

    private static void day() {
        RungBackwards x = Due.steeple();
        int[] due = {1, 2, 3, 0, 1};
        for (int weather : due) {
            Due.due("day", x.day(), weather);
            Due.due("status", x.status(2), weather);
        }
        Due.due("no year passes", x.status(3), 0);
        Due.due("no age", x.thingOf(0, 2), 0);
    }

    /** The draws, told again. */
    private static int drawn(int[] seed, int below) {
        seed[0] = (int) (seed[0] * 1103515245L + 12345L);
        return (seed[0] >>> 16) % below;
    }

    private static void seedAndDraws() {
        RungBackwards x = Due.towerOf("thing 9 0");
        Due.due("seed at first", x.seed(-77), 1);
        Due.due("seed then", x.seed(Integer.MIN_VALUE), -77);
        Due.due("seed of least", x.seed(5), Integer.MIN_VALUE);
        int[] seed = {5};
        boolean been = true;
        int cracked = 0;
        int kept = 0;
        int rung = 0;
        for (int i = 1; i <= 60; i++) {
            rung += x.years(1);
            int weather = drawn(seed, 4);
            drawn(seed, 1);
            if ((cracked & 1) == 0 && (!been || kept == weather)) {
                been = !been;
                kept = weather;
                rung--;
            }
            int bell = drawn(seed, 8);
            cracked |= drawn(seed, 10) == 0 ? 1 << bell : 0;
            Due.due("weather " + i, x.status(2), weather);
            Due.due("cracked " + i, x.status(4), cracked);
            Due.due("seed " + i, x.status(7), seed[0]);
            Due.due("been " + i, x.thingOf(0, 3), been ? 1 : 0);
            Due.due("year " + i, x.status(3), i);
        }
        Due.due("as many were rung as told", rung, 0);
    }

    private static void years() {
        RungBackwards x = Due.towerOf("thing 9 0;thing 8 1;unsaid 1;year 998;crack 0;crack 1");
        x.give(0, 2, 98);
        x.give(1, 2, 50);
        Due.due("shut", x.years(1), 0);
        Due.due("year", x.status(3), 999);
        Due.due("age of what has been", x.thingOf(0, 2), 99);
        Due.due("age of what hasn't", x.thingOf(1, 2), 50);
        Due.due("shut", x.years(60), 0);
        Due.due("year 999 at most", x.status(3), 999);
        Due.due("age 99 at most", x.thingOf(0, 2), 99);
        int[] seed = {1};
        for (int i = 0; i < 61; i++) {
            drawn(seed, 4);
            drawn(seed, 2);
            drawn(seed, 8);
            drawn(seed, 10);
        }
        Due.due("four draws a year without ringers", x.status(7), seed[0]);
        Due.due("n at once as one by one", atOnce(), oneByOne());
        Due.refused("n 0", Due::steeple, y -> y.years(0), Due.BAD);
        Due.refused("n 61", Due::steeple, y -> y.years(61), Due.BAD);
        Due.refused("n -1", Due::steeple, y -> y.years(-1), Due.BAD);
        Due.refused("no things", () -> Due.towerOf("ringer 0 0 0"), y -> y.years(1), Due.STUCK);
        Due.refused("BAD ahead of STUCK", RungBackwards::new, y -> y.years(0), Due.BAD);
    }

    private static int atOnce() {
        RungBackwards x = Due.steeple();
        return x.years(60) * 31 + x.status(7);
    }

    private static int oneByOne() {
        RungBackwards x = Due.steeple();
        int rung = 0;
        for (int i = 0; i < 60; i++) {
            rung += x.years(1);
        }
        return rung * 31 + x.status(7);
    }

    /** 6 draws a year, a ringer's slip from a thing that MAY not be rung, too. */
    private static void yearsWithRingers() {
        RungBackwards x = Due.towerOf("thing 9 0;thing 8 1;thing 7 2;ringer 5 9 0;ringer 1 9 1");
        int[] seed = {1};
        int[] kept = {0, 1, 2};
        int been = 7;
        int cracked = 0;
        int slips = 0;
        for (int i = 1; i <= 60; i++) {
            int weather = drawn(seed, 4);
            int thing = drawn(seed, 3);
            int slip = drawn(seed, 2) == 1 ? 57 : (cracked & 1) == 1 ? 50 : 19;
            if (drawn(seed, 100) < slip) {
                slips++;
                thing = (thing + 1) % 3;
            }
            boolean may = (cracked >> thing & 1) == 0 && ((been >> thing & 1) == 0 || kept[thing] == weather);
            if (may) {
                been ^= 1 << thing;
                kept[thing] = weather;
            }
            int bell = drawn(seed, 8);
            cracked |= drawn(seed, 10) == 0 ? 1 << bell : 0;
            if (i % 20 == 0) {
                cracked = 0;
            }
            Due.due("rung in " + i, x.years(1), may ? 1 : 0);
            if (i % 20 == 0) {
                x.tell(2, 0);
            }
            Due.due("been in " + i, x.all(2), been);
            Due.due("seed in " + i, x.status(7), seed[0]);
        }
        Due.due("some slipped", slips > 5 ? 1 : 0, 1);
    }

    private static void image() {
        RungBackwards x = shelved();
        x.feed(59);
        String before = Due.stateOf(x);
        Due.due("image", x.image(), 1);
        Due.due("nothing changes", Due.stateOf(x).equals(before) ? 1 : 0, 1);
        x.thing(1, 1);
        x.ringer(0, 0, 0);
        x.give(0, 0, 99);
        x.give(0, 1, 3);
        x.give(0, 2, 9);
        x.give(0, 3, 0);
        x.hang(1, 0, 0);
        x.years(9);
        x.tell(1, 77);
        Due.due("back", x.back(), 1);
        Due.due("all is as it was", Due.stateOf(x).equals(before) ? 1 : 0, 1);
        x.day();
        Due.due("back again", x.back(), 1);
        Due.due("weather", x.status(2), 0);
        x.day();
        x.image();
        x.day();
        x.back();
        Due.due("the later image", x.status(2), 1);
    }

    private static void back() {
        RungBackwards x = new RungBackwards();
        x.ringer(0, 0, 0);
        x.image();
        x.ringer(5, 0, 5);
        x.row(0, 0, 3);
        x.set(0, 2, 7);
        x.show(1, 0);
        x.show(2, 1);
        x.feed(121);
        x.row(-1, 0, 0);
        Due.due("back", x.back(), 1);
        Due.due("one ringer", x.status(1), 1);
        Due.due("a row is left", x.element(0, 2), 7);
        Due.due("ringer 0", x.holds(1), 10);
        Due.due("ringer 1 is no more", x.holds(2), -1);
        Due.due("the tape is left", x.status(6), 1);
        Due.due("refusals are left", x.status(12), 1);
        x.ringer(3, 1, 2);
        Due.due("the shelf is nothing still", x.holds(2), -1);
        RungBackwards y = new RungBackwards();
        y.image();
        y.ringer(1, 1, 1);
        y.show(7, 0);
        y.back();
        Due.due("of an image of nothing", y.holds(7), -1);
        RungBackwards z = Due.towerOf("ringer 0 0 0");
        z.image();
        z.back();
        z.show(3, 0);
        z.image();
        Due.due("the ringer of the same number", z.says(3, 0), 0);
        Due.refused("nothing was kept", Due::steeple, w -> w.back(), Due.STUCK);
    }

    private static void status() {
        RungBackwards x = shelved();
        x.tell(0, 2);
        x.tell(1, 345);
        x.tell(2, 129);
        x.seed(-9);
        Due.feed(x, "year 5");
        int[] due = {6, 4, 2, 345, 129, 121, 6, -9, 2};
        for (int what = 0; what <= 8; what++) {
            Due.due("status " + what, x.status(what), due[what]);
        }
        x.thing(-1, 0);
        x.set(1, 0, 0);
        x.set(1, 0, 0);
        x.set(2, 0, 0);
        x.back();
        x.back();
        x.back();
        for (int i = 0; i < 4; i++) {
            x.ringer(0, 0, 0);
        }
        int[] refusals = {1, 2, 1, 3, 2};
        for (int i = 0; i < 5; i++) {
            Due.due("refusals " + (12 + i), x.status(12 + i), refusals[i]);
        }
        int[] none = {-1, 9, 10, 11, 17, Integer.MIN_VALUE, Integer.MAX_VALUE};
        for (int what : none) {
            Due.due("status " + what, x.status(what), -1);
        }
        Due.due("another what isn't refused", x.status(12), 1);
        Due.due("a fault behind what was fed is refused, too", Due.read(x, ";"), -27);
        Due.due("BAD", x.status(12), 2);
    }
}
