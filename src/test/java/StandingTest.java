/** Promises 20 to 23, 26, 27, 36, 37, 38, 46, 48 to 51: what stands, what hangs, what is off. */
public final class StandingTest {
    public static void main(String[] args) {
        all();
        off();
        down();
        up();
        until();
        slipped();
        depth();
        ends();
        common();
        free();
        soon();
        inWeather();
        chain();
        alone();
        Due.end();
    }

    /** 10 things, each on the one ahead of it. */
    private static RungBackwards ladder() {
        return Due.towerOf("thing 1 0;thing 1 0;thing 1 0;thing 1 0;thing 1 0;thing 1 0;thing 1 0;thing 1 0;thing 1 0;"
            + "thing 1 0;hangs 1 0;hangs 2 1;hangs 3 2;hangs 4 3;hangs 5 4;hangs 6 5;hangs 7 6;hangs 8 7;hangs 9 8");
    }

    private interface Asking {
        int of(RungBackwards x, int thing);
    }

    /** Answers for each thing of the steeple, and what isn't one is BAD. */
    private static void each(String call, Asking asking, int... due) {
        RungBackwards x = Due.steeple();
        for (int i = 0; i < due.length; i++) {
            Due.due(call + "(" + i + ")", asking.of(x, i), due[i]);
        }
        int[] bad = {-1, 6, Integer.MIN_VALUE, Integer.MAX_VALUE};
        for (int b : bad) {
            Due.refused(call + "(" + b + ")", Due::steeple, y -> asking.of(y, b), Due.BAD);
        }
        Due.refused(call + " of nothing", RungBackwards::new, y -> asking.of(y, 0), Due.BAD);
    }

    private static void all() {
        RungBackwards x = Due.steeple();
        int[] due = {47, 121, 47, 5, 16};
        for (int what = 0; what <= 4; what++) {
            Due.due("all " + what, x.all(what), due[what]);
        }
        x.give(2, 3, 0);
        int[] then = {3, 50, 43, 1, 20};
        for (int what = 0; what <= 4; what++) {
            Due.due("then all " + what, x.all(what), then[what]);
        }
        x.tell(2, 5);
        Due.due("shut back", x.all(3), 0);
        Due.due("shut forwards", x.all(4), 16);
        Due.due("shut, it stands", x.all(0), 3);
        x.tell(0, 3);
        Due.due("in weather 3", x.all(3), 32);
        Due.refused("all 5", Due::steeple, y -> y.all(5), Due.BAD);
        Due.refused("all -1", Due::steeple, y -> y.all(-1), Due.BAD);
    }

    private static void off() {
        each("off", RungBackwards::off, 43, 42, 44, 40, 0, 32);
        RungBackwards x = Due.steeple();
        x.give(0, 3, 0);
        Due.due("off by one that has been, but doesn't stand", x.off(1), 0);
        Due.due("off by what stands", x.off(2), 4);
        Due.due("a ladder", ladder().off(0), 1023);
        Due.due("a ladder's top", ladder().off(9), 512);
    }

    private static void down() {
        each("down", RungBackwards::down, 0, 1, 0, 7, 4, 15);
        Due.due("a ladder", ladder().down(9), 511);
    }

    private static void up() {
        each("up", RungBackwards::up, 42, 40, 56, 32, 0, 0);
        Due.due("a ladder", ladder().up(0), 1022);
        RungBackwards x = Due.steeple();
        x.give(1, 3, 0);
        Due.due("whether it has been is nothing", x.up(0), 42);
    }

    private static void until() {
        RungBackwards x = Due.steeple();
        int[][] due = {{0, 0}, {1, 1}, {2, 2}, {8, 3}, {32, 4}, {47, 4}, {3, 2}, {5, 1}, {16, -1}, {63, -1}};
        for (int[] d : due) {
            Due.due("until " + d[0], x.until(d[0]), d[1]);
        }
        x.tell(0, 3);
        int[][] then = {{32, 1}, {1, 2}, {2, 3}, {8, 4}, {0, 0}};
        for (int[] d : then) {
            Due.due("from 3 until " + d[0], x.until(d[0]), d[1]);
        }
        x.tell(2, 1);
        Due.due("shut", x.until(33), -1);
        Due.due("not shut", x.until(34), 3);
        Due.due("NONE isn't refused", x.status(12), 0);
        Due.refused("until 64", Due::steeple, y -> y.until(64), Due.BAD);
        Due.refused("until 65", Due::steeple, y -> y.until(65), Due.BAD);
        Due.refused("until -1", Due::steeple, y -> y.until(-1), Due.BAD);
    }

    private static void slipped() {
        RungBackwards x = Due.steeple();
        int[][] due = {{0, 1, 42}, {5, 1, 43}, {0, 4, 0}, {4, 9, 42}, {0, 6, 43}, {3, 8, 32}};
        for (int[] d : due) {
            Due.due("slipped " + d[0] + " " + d[1], x.slipped(d[0], d[1]), d[2]);
        }
        RungBackwards one = Due.towerOf("thing 1 0");
        Due.due("of one alone", one.slipped(0, 9), 1);
        each("slipped by 9", (y, thing) -> y.slipped(thing, 9), 40, 0, 32, 43, 42, 44);
        Due.refused("k 0", Due::steeple, y -> y.slipped(0, 0), Due.BAD);
        Due.refused("k 10", Due::steeple, y -> y.slipped(0, 10), Due.BAD);
        Due.refused("k -1", Due::steeple, y -> y.slipped(0, -1), Due.BAD);
    }

    private static void depth() {
        each("depth", RungBackwards::depth, 0, 1, 0, 2, 1, 3);
        Due.due("a ladder", ladder().depth(9), 9);
    }

    private static void ends() {
        RungBackwards x = Due.steeple();
        Due.due("tops", x.ends(0), 48);
        Due.due("feet", x.ends(1), 5);
        Due.due("nothing", new RungBackwards().ends(0), 0);
        Due.refused("ends 2", Due::steeple, y -> y.ends(2), Due.BAD);
        Due.refused("ends -1", Due::steeple, y -> y.ends(-1), Due.BAD);
    }

    private static void common() {
        RungBackwards x = Due.steeple();
        Due.due("common", x.common(4, 5), 4);
        Due.due("common the other way", x.common(5, 4), 4);
        Due.due("nothing", x.common(1, 4), 0);
        Due.due("with itself", x.common(3, 3), 7);
        Due.due("with what it hangs on", x.common(3, 1), 1);
        each("common with 5", (y, thing) -> y.common(5, thing), 0, 1, 0, 7, 4, 15);
        each("common of 5", (y, thing) -> y.common(thing, 5), 0, 1, 0, 7, 4, 15);
    }

    private static void free() {
        each("free", RungBackwards::free, 0, 1, 0, 6, 4, 8);
        RungBackwards x = Due.steeple();
        x.free(3);
        Due.due("it hangs on nothing", x.thingOf(3, 4), 0);
        Due.due("again", x.free(3), 0);
    }

    private static void soon() {
        each("soon", RungBackwards::soon, 1, 2, 1, 3, -1, 4);
        RungBackwards x = Due.steeple();
        x.tell(2, 2);
        Due.due("shut", x.soon(1), -1);
        Due.due("NONE isn't refused", x.status(12), 0);
    }

    private static void inWeather() {
        RungBackwards x = Due.steeple();
        int[] due = {21, 2, 8, 32};
        for (int weather = 0; weather < 4; weather++) {
            Due.due("in weather " + weather, x.inWeather(weather), due[weather]);
        }
        Due.refused("weather 4", Due::steeple, y -> y.inWeather(4), Due.BAD);
        Due.refused("weather -1", Due::steeple, y -> y.inWeather(-1), Due.BAD);
    }

    private static void chain() {
        each("chain", RungBackwards::chain, 1, 3, 4, 11, 20, 43);
        Due.due("a ladder", ladder().chain(9), 1023);
        RungBackwards x = Due.towerOf("thing 1 0;thing 1 0;thing 1 0;thing 1 0;thing 1 0;thing 1 0;"
            + "hangs 2 1;hangs 3 1;hangs 3 0;hangs 4 0;hangs 5 4;hangs 5 3;hangs 5 2");
        Due.due("the lesser each time", x.chain(5), 38);
        Due.due("the lesser", x.chain(3), 9);
    }

    private static void alone() {
        each("alone", RungBackwards::alone, 0, 0, 0, 0, 1, 1);
        RungBackwards x = Due.steeple();
        x.give(0, 3, 0);
        Due.due("it is off alone", x.alone(2), 1);
        Due.due("nothing is off", x.alone(1), 1);
    }
}
