/** Promises 24, 25, 30 to 32, 34, 35, 39 to 45: what to ring back or forwards, and what comes of it. */
public final class ChoosingTest {
    public static void main(String[] args) {
        to();
        unsay();
        putBack();
        parishes();
        deaf();
        worst();
        best();
        weatherFor();
        bell();
        pair();
        under();
        pillar();
        ways();
        oldest();
        Due.end();
    }

    /** Nothing has been. */
    private static RungBackwards silent() {
        RungBackwards x = Due.steeple();
        for (int i = 0; i < 6; i++) {
            x.give(i, 3, 0);
        }
        return x;
    }

    private static void to() {
        RungBackwards x = Due.steeple();
        x.tell(2, 255);
        x.tell(0, 3);
        int[][] due = {{47, 0}, {7, 8}, {5, 2}, {0, 5}, {4, 1}, {3, 4}, {1, 6}, {15, 32}, {2, -1}, {16, -1}, {39, -1},
            {63, -1}, {6, -1}};
        for (int[] d : due) {
            Due.due("to " + d[0], x.to(d[0]), d[1]);
        }
        Due.due("NONE isn't refused", x.status(12), 0);
        RungBackwards y = Due.towerOf("thing 1 0;thing 1 0;thing 1 0;thing 1 0;hangs 2 1;hangs 2 0;hangs 3 2");
        y.give(0, 3, 0);
        Due.due("what doesn't stand is left", y.to(2), 0);
        Due.due("fewest", y.to(0), 2);
        Due.due("what hasn't been doesn't come", y.to(1), -1);
        Due.refused("to 64", Due::steeple, z -> z.to(64), Due.BAD);
        Due.refused("to -1", Due::steeple, z -> z.to(-1), Due.BAD);
        Due.refused("to the least", Due::steeple, z -> z.to(Integer.MIN_VALUE), Due.BAD);
    }

    private static void unsay() {
        RungBackwards x = Due.steeple();
        x.tell(2, 255);
        x.tell(0, 3);
        int[][] due = {{0, 0}, {8, 8}, {32, 32}, {40, 8}, {16, 0}, {3, 1}, {2, 2}, {63, 5}, {10, 2}, {12, 4}, {36, 4}};
        for (int[] d : due) {
            Due.due("unsay " + d[0], x.unsay(d[0]), d[1]);
        }
        RungBackwards y = Due.towerOf("thing 1 0;thing 1 0;thing 1 0;thing 1 0;hangs 1 0;hangs 2 0;hangs 3 0");
        Due.due("most others, though more are rung", y.unsay(14), 14);
        Due.due("then fewest", y.unsay(15), 1);
        RungBackwards z = Due.towerOf("thing 1 0;thing 1 0;thing 1 0;hangs 2 0;hangs 2 1");
        Due.due("itself, so that both others stand", z.unsay(4), 4);
        Due.due("by one of the told", z.unsay(5), 1);
        Due.refused("unsay 64", Due::steeple, w -> w.unsay(64), Due.BAD);
        Due.refused("unsay -1", Due::steeple, w -> w.unsay(-1), Due.BAD);
    }

    private static void putBack() {
        RungBackwards x = Due.steeple();
        int[] due = {0, 0, 0, 0, 1, 0};
        for (int i = 0; i < 6; i++) {
            Due.due("putBack " + i, x.putBack(i), due[i]);
        }
        x.give(2, 3, 0);
        x.give(5, 3, 0);
        x.tell(0, 3);
        int[] then = {0, 0, 1, 1, 2, 2};
        for (int i = 0; i < 6; i++) {
            Due.due("then putBack " + i, x.putBack(i), then[i]);
        }
        x.tell(2, 4);
        int[] shut = {0, 0, -1, -1, -1, -1};
        for (int i = 0; i < 6; i++) {
            Due.due("shut putBack " + i, x.putBack(i), shut[i]);
        }
        x.tell(2, 11);
        Due.due("what has been needn't be open", x.putBack(5), 2);
        Due.due("NONE isn't refused", x.status(12), 0);
        Due.refused("thing 6", Due::steeple, y -> y.putBack(6), Due.BAD);
        Due.refused("thing -1", Due::steeple, y -> y.putBack(-1), Due.BAD);
    }

    private static void parishes() {
        RungBackwards x = Due.steeple();
        x.tell(2, 255);
        x.tell(0, 3);
        int[][] due = {{121, -1}, {7, 0}, {121, 0}};
        for (int n = 0; n < due.length; n++) {
            Due.due("parishes value " + n, x.parishes(n, 0), due[n][0]);
            Due.due("parishes first " + n, x.parishes(n, 1), due[n][1]);
        }
        RungBackwards two = Due.towerOf("thing 5 0;thing 5 0");
        int[] values = {10, 5, 10, 5, 10, 5};
        for (int n = 0; n <= 5; n++) {
            Due.due("two alike, value " + n, two.parishes(n, 0), values[n]);
            Due.due("two alike, first " + n, two.parishes(n, 1), n == 0 ? -1 : 0);
        }
        RungBackwards none = Due.towerOf("thing 5 0;thing 9 0;unsaid 0;unsaid 1");
        int[] forwards = {0, 0, 9, 0, 9, 0};
        for (int n = 0; n <= 5; n++) {
            Due.due("nothing to ring first, value " + n, none.parishes(n, 0), forwards[n]);
            Due.due("nothing to ring first, first " + n, none.parishes(n, 1), -1);
        }
        RungBackwards one = Due.towerOf("thing 3 0;thing 9 0;unsaid 0");
        Due.due("it is better to ring the lesser forwards first", one.parishes(2, 0), 9);
        Due.due("first", one.parishes(2, 1), 1);
        RungBackwards feet = Due.towerOf("thing 1 0;thing 2 0;thing 4 0;thing 8 0;hangs 2 0;hangs 3 1;unsaid 1");
        // 0 and 2 stand, 5. If two are rung: 0 back lets 1 bring 3 with it, 10; 2 back 11; 3 back but 7.
        int[][] turns = {{5, -1}, {0, 0}, {7, 3}, {0, 0}, {7, 3}, {0, 0}};
        for (int n = 0; n <= 5; n++) {
            Due.due("feet, value " + n, feet.parishes(n, 0), turns[n][0]);
            Due.due("feet, first " + n, feet.parishes(n, 1), turns[n][1]);
        }
        Due.due("NONE isn't refused", none.status(12), 0);
        Due.refused("n 6", Due::steeple, y -> y.parishes(6, 0), Due.BAD);
        Due.refused("n -1", Due::steeple, y -> y.parishes(-1, 0), Due.BAD);
        Due.refused("what 2", Due::steeple, y -> y.parishes(0, 2), Due.BAD);
        Due.refused("what -1", Due::steeple, y -> y.parishes(0, -1), Due.BAD);
    }

    private static void deaf() {
        RungBackwards x = Due.steeple();
        x.tell(2, 255);
        int[][] due = {{0, 1, 0}, {16, 1, 16}, {48, 1, 16}, {47, 1, 0}};
        for (int[] d : due) {
            Due.due("deaf how many " + d[0], x.deaf(d[0], 0), d[1]);
            Due.due("deaf least " + d[0], x.deaf(d[0], 1), d[2]);
        }
        x.give(2, 3, 0);
        int[][] then = {{0, 2, 0}, {44, 1, 4}, {60, 1, 20}, {4, 0, -1}, {16, 0, -1}};
        for (int[] d : then) {
            Due.due("then deaf how many " + d[0], x.deaf(d[0], 0), d[1]);
            Due.due("then deaf least " + d[0], x.deaf(d[0], 1), d[2]);
        }
        RungBackwards none = silent();
        Due.due("of all that hasn't been", none.deaf(0, 0), 16);
        Due.due("of all, what stands on a foot", none.deaf(4, 0), 8);
        Due.due("least", none.deaf(4, 1), 4);
        Due.due("NONE isn't refused", x.status(12), 0);
        Due.refused("things 64", Due::steeple, y -> y.deaf(64, 0), Due.BAD);
        Due.refused("things -1", Due::steeple, y -> y.deaf(-1, 0), Due.BAD);
        Due.refused("what 2", Due::steeple, y -> y.deaf(0, 2), Due.BAD);
        Due.refused("what -1", Due::steeple, y -> y.deaf(0, -1), Due.BAD);
    }

    private static void worst() {
        RungBackwards x = Due.steeple();
        Due.due("worst", x.worst(0), 0);
        Due.due("its value", x.worst(1), 7);
        x.give(0, 0, 0);
        x.give(2, 0, 30);
        // Without 0: 2 alone, 30. Without 2: 0 and 1, 30.
        Due.due("of several the first", x.worst(0), 0);
        Due.due("their value", x.worst(1), 30);
        x.give(0, 3, 0);
        Due.due("of those that have been", x.worst(0), 2);
        Due.due("value", x.worst(1), 0);
        x.give(2, 3, 0);
        Due.due("what has been, but doesn't stand", x.worst(0), 1);
        Due.due("value", x.worst(1), 0);
        Due.due("none", silent().worst(0), -1);
        Due.due("none", silent().worst(1), -1);
        Due.refused("worst 2", Due::steeple, y -> y.worst(2), Due.BAD);
        Due.refused("worst -1", Due::steeple, y -> y.worst(-1), Due.BAD);
    }

    private static void best() {
        RungBackwards x = Due.steeple();
        Due.due("best", x.best(0), 4);
        Due.due("its value", x.best(1), 133);
        x.give(3, 3, 0);
        Due.due("what comes with it counts", x.best(0), 3);
        Due.due("its value", x.best(1), 121);
        Due.due("feet alone stand", silent().best(0), 0);
        Due.due("their value", silent().best(1), 20);
        RungBackwards y = Due.towerOf("thing 4 0;thing 4 0;thing 0 0;unsaid 0;unsaid 1");
        Due.due("of several the first", y.best(0), 0);
        Due.due("value", y.best(1), 4);
        RungBackwards all = Due.towerOf("thing 4 0");
        Due.due("none", all.best(0), -1);
        Due.due("none", all.best(1), -1);
        RungBackwards worthless = Due.towerOf("thing 0 0;unsaid 0");
        Due.due("of no worth", worthless.best(0), 0);
        Due.refused("best 2", Due::steeple, z -> z.best(2), Due.BAD);
        Due.refused("best -1", Due::steeple, z -> z.best(-1), Due.BAD);
    }

    private static void weatherFor() {
        RungBackwards x = Due.steeple();
        Due.due("weather for", x.weatherFor(0), 0);
        Due.due("how many", x.weatherFor(1), 2);
        x.give(2, 1, 3);
        Due.due("then", x.weatherFor(0), 3);
        Due.due("how many", x.weatherFor(1), 2);
        x.tell(2, 4);
        Due.due("cracks as they are, the least", x.weatherFor(0), 0);
        Due.due("how many", x.weatherFor(1), 1);
        x.give(0, 3, 0);
        Due.due("those that have been", x.weatherFor(0), 1);
        Due.due("none", silent().weatherFor(0), 0);
        Due.due("how many", silent().weatherFor(1), 0);
        Due.refused("weatherFor 2", Due::steeple, y -> y.weatherFor(2), Due.BAD);
        Due.refused("weatherFor -1", Due::steeple, y -> y.weatherFor(-1), Due.BAD);
    }

    private static void bell() {
        RungBackwards x = new RungBackwards();
        for (int i = 0; i < 10; i++) {
            x.thing(i, 0);
        }
        Due.due("bell", x.bell(0), 0);
        Due.due("how many", x.bell(1), 2);
        x.tell(2, 1);
        Due.due("one that is cracked shuts no more", x.bell(0), 1);
        Due.due("how many", x.bell(1), 2);
        x.give(1, 3, 0);
        Due.due("whether they have been is nothing", x.bell(1), 2);
        x.tell(2, 3);
        Due.due("bell", x.bell(0), 2);
        Due.due("how many", x.bell(1), 1);
        x.tell(2, 127);
        Due.due("the last bell", x.bell(0), 7);
        x.tell(2, 255);
        Due.due("all cracked", x.bell(0), 0);
        Due.due("how many", x.bell(1), 0);
        Due.refused("bell 2", Due::steeple, y -> y.bell(2), Due.BAD);
        Due.refused("bell -1", Due::steeple, y -> y.bell(-1), Due.BAD);
    }

    private static void pair() {
        RungBackwards x = Due.steeple();
        Due.due("pair", x.pair(0), 2);
        Due.due("its value", x.pair(1), 0);
        x.give(0, 3, 0);
        x.give(2, 3, 0);
        Due.due("of several the first", x.pair(0), 13);
        x.give(1, 3, 0);
        Due.due("the last two", x.pair(0), 35);
        Due.due("value", x.pair(1), 0);
        x.give(3, 3, 0);
        Due.due("fewer have been", x.pair(0), -1);
        Due.due("fewer have been", x.pair(1), -1);
        RungBackwards y = new RungBackwards();
        for (int i = 0; i < 10; i++) {
            y.thing(i, 0);
        }
        Due.due("8 and 9", y.pair(0), 89);
        Due.due("value", y.pair(1), 28);
        Due.refused("pair 2", Due::steeple, z -> z.pair(2), Due.BAD);
        Due.refused("pair -1", Due::steeple, z -> z.pair(-1), Due.BAD);
    }

    private static void under() {
        RungBackwards x = Due.steeple();
        int[][] due = {{0, 5}, {6, 5}, {7, 1}, {50, 1}, {120, 1}, {121, 0}, {999, 0}};
        for (int[] d : due) {
            Due.due("under " + d[0], x.under(d[0]), d[1]);
        }
        Due.due("nothing to ring", silent().under(0), 0);
        RungBackwards y = Due.towerOf("thing 1 0;thing 5 0;thing 5 0;thing 9 0");
        Due.due("fewest, then least", y.under(15), 2);
        Due.due("fewest", y.under(11), 8);
        Due.due("two, the least", y.under(10), 6);
        Due.refused("under -1", Due::steeple, z -> z.under(-1), Due.BAD);
        Due.refused("under 1000", Due::steeple, z -> z.under(1000), Due.BAD);
    }

    private static void pillar() {
        RungBackwards x = Due.steeple();
        Due.due("pillar", x.pillar(), 0);
        x.give(0, 3, 0);
        Due.due("of those that stand", x.pillar(), 2);
        x.give(2, 3, 0);
        Due.due("none stands", x.pillar(), -1);
        Due.due("though some have been", x.all(2), 42);
        Due.due("NONE isn't refused", x.status(12), 0);
        RungBackwards y = Due.towerOf("thing 3 0;thing 3 0;thing 0 0");
        Due.due("of several the first", y.pillar(), 0);
        RungBackwards z = Due.towerOf("thing 9 0;thing 0 0;thing 0 0;hangs 1 0;unsaid 0");
        Due.due("one that stands, of no worth", z.pillar(), 2);
    }

    private static void ways() {
        RungBackwards x = Due.steeple();
        int[][] due = {{0, 16}, {63, 1}, {1, 8}, {2, 0}, {5, 4}, {4, 8}, {47, 1}, {31, 1}};
        for (int[] d : due) {
            Due.due("ways " + d[0], x.ways(d[0]), d[1]);
        }
        Due.due("what has been is nothing", silent().ways(0), 16);
        Due.refused("ways 64", Due::steeple, y -> y.ways(64), Due.BAD);
        Due.refused("ways -1", Due::steeple, y -> y.ways(-1), Due.BAD);
    }

    private static void oldest() {
        RungBackwards x = Due.steeple();
        Due.due("all alike", x.oldest(0), 0);
        Due.due("all alike", x.oldest(1), 0);
        x.give(0, 2, 5);
        x.give(4, 2, 99);
        x.give(3, 2, 6);
        x.give(5, 2, 6);
        Due.due("oldest of those that have been", x.oldest(0), 3);
        Due.due("youngest, the first", x.oldest(1), 1);
        x.give(4, 3, 1);
        Due.due("oldest", x.oldest(0), 4);
        Due.due("none", silent().oldest(0), -1);
        Due.due("none", silent().oldest(1), -1);
        Due.refused("oldest 2", Due::steeple, y -> y.oldest(2), Due.BAD);
        Due.refused("oldest -1", Due::steeple, y -> y.oldest(-1), Due.BAD);
    }
}
