/** What it is: one object asked for all that its first sentence names, and how many calls it is used for. */
final class WholeEdges {
    private static final String WHAT_IT_IS = "What it is";
    private static final int MOST_CALLS = 512;

    private WholeEdges() {
    }

    static void all() {
        Edge.of(WHAT_IT_IS, "Rung backwards it is unsaid: a tower whose peals announce things, things that hang on things, "
            + "ringers by kinds who slip, weather that must be the same; what has been, what is off if one is rung back,",
            WholeEdges::tower);
        Edge.of(WHAT_IT_IS, "which to ring back and in which order so that told things have been and told have not, "
            + "what a slip does, whose slip it was, how likely it goes well, which weather to wait for,", WholeEdges::asked);
        Edge.of(WHAT_IT_IS, "how two parishes ring each other out by turns, what was rung by what the deaf remember,",
            WholeEdges::others);
        Edge.of(WHAT_IT_IS, "told ringings judged, towers read from texts, ringings in truth, years by draws. ==== 1.",
            WholeEdges::rung);
        Edge.of(WHAT_IT_IS, "An object is used for at most 512 calls after it has been made;", WholeEdges::manyCalls);
        Edge.of(WHAT_IT_IS, "what later calls answer is free.", WholeEdges::noneShared);
    }

    /** 1 on 0; 2 for itself; SLIPS of 10 and 36. */
    private static RungBackwards small() {
        RungBackwards x = new RungBackwards();
        x.thing(40, 0);
        x.thing(25, 1);
        x.thing(10, 0);
        x.hang(1, 0, 1);
        x.ringer(0, 0, 0);
        x.ringer(1, 2, 1);
        return x;
    }

    private static void tower() {
        RungBackwards x = small();
        Due.due("THINGS", x.status(0), 3);
        Due.due("1 hangs on 0", x.thingOf(1, 4), 1);
        Due.due("a RINGER slips", x.ringerOf(0, 3), 10);
        Due.due("a LEARNER slips", x.ringerOf(1, 3), 36);
        Due.due("1 MAY not, for WEATHER", x.thingOf(1, 7), 0);
        Due.due("BEEN", x.all(2), 7);
        Due.due("OFF", x.off(0), 3);
        Due.due("rung backwards", x.ring(0), 10);
        Due.due("it is unsaid", x.all(0), 4);
    }

    private static void asked() {
        RungBackwards x = small();
        Due.due("TO", x.to(5), 2);
        Due.due("BACK", x.unsay(1), 1);
        Due.due("ORDER", x.until(6), 2);
        Due.due("SLIPPED", x.slipped(2, 1), 3);
        Due.due("WHOSE", x.whose(20), 2);
        Due.due("WELL", x.well(3), 576000);
        Due.due("WEATHER to wait for", x.weatherFor(0), 0);
    }

    private static void others() {
        RungBackwards x = small();
        int[] values = {75, 10, 75, 10};
        for (int n = 0; n < values.length; n++) {
            Due.due("PARISHES, " + n, x.parishes(n, 0), values[n]);
        }
        Due.due("rung first", x.parishes(2, 1), 0);
        x.give(1, 3, 0);
        Due.due("DEAF", x.deaf(2, 0), 1);
        Due.due("the least", x.deaf(2, 1), 2);
    }

    private static void rung() {
        RungBackwards x = small();
        Towers.put(x, 0, 0, 0, 0, 2);
        Due.due("judged", x.judge(0, 2), -1);
        Due.due("judged", x.judge(0, 3), -1);
        Due.due("behind", x.behind(0, 3, 1), 65);
        x.tell(0, 1);
        Due.due("judged in another WEATHER", x.judge(0, 2), 0);
        Due.due("read", Due.read(x, "unsaid 2; weather 3"), 2);
        Due.due("in truth", x.ring(2), 75);
        Due.due("by draws", x.years(7) <= 7 ? 1 : 0, 1);
        Due.due("YEAR", x.status(3), 7);
    }

    private static void manyCalls() {
        RungBackwards days = new RungBackwards();
        for (int i = 1; i <= MOST_CALLS; i++) {
            Due.due("day " + i, days.day(), i % 4);
        }
        RungBackwards x = new RungBackwards();
        for (int i = 1; i < MOST_CALLS; i++) {
            Due.due("call " + i, x.thing(100, 0), Due.BAD);
        }
        Due.due("the last call", x.status(12), MOST_CALLS - 1);
        RungBackwards full = Towers.tenThings();
        for (int i = 11; i < MOST_CALLS; i++) {
            Due.due("call " + i, full.thing(0, 0), Due.FULL);
        }
        Due.due("the last call", full.status(16), MOST_CALLS - 11);
        RungBackwards old = Towers.oneThing();
        for (int i = 2; i < MOST_CALLS; i++) {
            Due.due("call " + i, old.years(60) <= 60 ? 1 : 0, 1);
        }
        Due.due("the last call", old.status(3), 999);
    }

    /** Nothing goes over from one object to another, not even from one that is called too often. */
    private static void noneShared() {
        RungBackwards worn = Towers.rich();
        for (int i = 0; i < 2 * MOST_CALLS; i++) {
            worn.day();
        }
        RungBackwards x = new RungBackwards();
        Due.same("a new object", Due.stateOf(x), Due.stateOf(new RungBackwards()));
        Due.due("nothing was kept", x.back(), Due.STUCK);
        RungBackwards other = new RungBackwards();
        Due.due("its first THING", x.thing(5, 0), 0);
        Due.due("another's first THING", other.thing(6, 0), 0);
        x.image();
        Due.due("another kept nothing", other.back(), Due.STUCK);
        Due.due("VALUE", x.status(5), 5);
        Due.due("another's VALUE", other.status(5), 6);
        Due.due("refusals of its own", x.status(15), 1);
        Due.due("refusals of the other", other.status(15), 1);
    }
}
