import java.util.function.Supplier;
import java.util.function.ToLongFunction;

/** Terms, REFUSALS: what is answered, which one comes first, and that nothing changes. */
final class RefusalEdges {
    private static final String TERMS = "Terms";

    private RefusalEdges() {
    }

    static void all() {
        Edge.of(TERMS, "REFUSALS (the call answers the number; nothing changes but how many there were;",
            RefusalEdges::nothingChanges);
        Edge.of(TERMS, "the first that fits as each line has them):", RefusalEdges::theFirst);
        Edge.of(TERMS, "-2 BAD a number that may not be, nothing of that number.", RefusalEdges::bad);
        Edge.of(TERMS, "-3 OTHER: a SHELF that holds another thing than is wanted.", RefusalEdges::other);
        Edge.of(TERMS, "-4 NOTHING: a SHELF that holds NOTHING.", RefusalEdges::nothing);
        Edge.of(TERMS, "-5 STUCK: it can't be as things stand.", RefusalEdges::stuck);
        Edge.of(TERMS, "-6 FULL.", RefusalEdges::full);
    }

    private static void refused(String call, ToLongFunction<RungBackwards> asking, int code) {
        Due.refused(call, Towers::rich, asking, code);
    }

    private static RungBackwards fullTape() {
        RungBackwards x = new RungBackwards();
        for (int i = 0; i < 250; i++) {
            x.feed(i);
        }
        return x;
    }

    /** One refused call of each code upon another: each counts itself alone, and what there is stays. */
    private static void nothingChanges() {
        RungBackwards x = Towers.rich();
        RungBackwards left = Towers.rich();
        for (int times = 1; times <= 3; times++) {
            Due.due("BAD", x.row(8, 0, 0), -2);
            Due.due("OTHER", x.set(2, 0, 0), -3);
            Due.due("NOTHING", x.set(4, 0, 0), -4);
            Due.due("STUCK", x.ring(1), -5);
            for (int what = 12; what <= 15; what++) {
                Due.due("how many of " + (10 - what), x.status(what), times);
            }
            Due.due("of FULL none", x.status(16), 0);
        }
        Due.same("refused calls changed", Due.stateOf(x), Due.stateOf(left));
        RungBackwards full = Towers.tenThings();
        for (int times = 1; times <= 3; times++) {
            Due.due("FULL", full.thing(0, 0), -6);
            Due.due("how many", full.status(16), times);
            for (int what = 12; what <= 15; what++) {
                Due.due("of " + (10 - what) + " none", full.status(what), 0);
            }
        }
        Due.same("refused calls changed", Due.stateOf(full), Due.stateOf(Towers.tenThings()));
        RungBackwards fault = Towers.tenThings();
        Due.due("a FAULT answers another number", Due.read(fault, "year 5;"), -27);
        Due.due("it counts as BAD", fault.status(12), 1);
    }

    /** Where two would fit. Shelf 0 to 7 of rich: bytes, bytes, RINGER 1, ints, NOTHING, longs, NOTHING, NOTHING. */
    private static void theFirst() {
        refused("set: BAD SHELF ahead of BAD i", x -> x.set(8, -1, 0), Due.BAD);
        refused("set: OTHER ahead of BAD i", x -> x.set(2, -1, 0), Due.OTHER);
        refused("set: NOTHING ahead of BAD i", x -> x.set(4, 40, 0), Due.NOTHING);
        refused("copy: BAD p ahead of OTHER q", x -> x.copy(-1, 2, 0, 0, 0), Due.BAD);
        refused("copy: BAD q ahead of OTHER p", x -> x.copy(2, 8, 0, 0, 0), Due.BAD);
        refused("copy: BAD p ahead of NOTHING q", x -> x.copy(8, 4, 0, 0, 0), Due.BAD);
        refused("copy: BAD q ahead of NOTHING p", x -> x.copy(4, -1, 0, 0, 0), Due.BAD);
        refused("copy: OTHER p ahead of NOTHING q", x -> x.copy(2, 4, 0, 0, 0), Due.OTHER);
        refused("copy: OTHER q ahead of NOTHING p", x -> x.copy(4, 2, 0, 0, 0), Due.OTHER);
        refused("copy: OTHER p ahead of BAD i", x -> x.copy(2, 0, -1, 0, 0), Due.OTHER);
        refused("copy: OTHER q ahead of BAD n", x -> x.copy(0, 2, 0, 0, -1), Due.OTHER);
        refused("copy: two SORTS ahead of BAD i", x -> x.copy(0, 3, 9, 0, 0), Due.OTHER);
        refused("copy: two SORTS ahead of BAD j", x -> x.copy(3, 0, 0, -1, 0), Due.OTHER);
        refused("copy: two SORTS ahead of BAD n", x -> x.copy(0, 5, 0, 0, 41), Due.OTHER);
        refused("copy: NOTHING p ahead of BAD i", x -> x.copy(4, 0, -1, 0, 0), Due.NOTHING);
        refused("copy: NOTHING q ahead of BAD n", x -> x.copy(0, 4, 0, 0, 41), Due.NOTHING);
        refused("says: BAD SHELF ahead of BAD KIND", x -> x.says(8, 6), Due.BAD);
        refused("says: BAD KIND ahead of OTHER, a ROW", x -> x.says(0, 6), Due.BAD);
        refused("says: BAD KIND ahead of OTHER, a RINGER", x -> x.says(2, -1), Due.BAD);
        refused("says: BAD KIND ahead of NOTHING", x -> x.says(4, 6), Due.BAD);
        Due.refused("thing: BAD ahead of FULL", Towers::tenThings, x -> x.thing(100, 0), Due.BAD);
        Due.refused("thing: BAD WEATHER ahead of FULL", Towers::tenThings, x -> x.thing(0, 4), Due.BAD);
        Due.refused("ringer: BAD KIND ahead of FULL", Towers::sixRingers, x -> x.ringer(6, 0, 0), Due.BAD);
        Due.refused("ringer: BAD a ahead of FULL", Towers::sixRingers, x -> x.ringer(0, 10, 0), Due.BAD);
        Due.refused("ringer: BAD BELL ahead of FULL", Towers::sixRingers, x -> x.ringer(0, 0, 8), Due.BAD);
        Due.refused("feed: BAD ahead of FULL", RefusalEdges::fullTape, x -> x.feed(256), Due.BAD);
        Due.refused("feed: BAD ahead of FULL", RefusalEdges::fullTape, x -> x.feed(-1), Due.BAD);
        firstOfPeals("judge", (x, s, n) -> x.judge(s, n));
        firstOfPeals("behind", (x, s, n) -> x.behind(s, n, 0));
        refused("behind: BAD what ahead of OTHER", x -> x.behind(2, 0, 2), Due.BAD);
        refused("behind: BAD what ahead of NOTHING", x -> x.behind(4, 0, -1), Due.BAD);
        refused("behind: BAD what ahead of STUCK", x -> x.behind(5, 3, 2), Due.BAD);
        refused("behind: BAD, fewer elements, ahead of STUCK", x -> x.behind(5, 4, 0), Due.BAD);
        Due.refused("ring: BAD ahead of STUCK", Towers::noThings, x -> x.ring(0), Due.BAD);
        Due.refused("years: BAD ahead of STUCK", Towers::noThings, x -> x.years(0), Due.BAD);
        Due.refused("years: BAD ahead of STUCK", Towers::noThings, x -> x.years(61), Due.BAD);
    }

    private interface Peal {
        int of(RungBackwards x, int s, int n);
    }

    private static void firstOfPeals(String call, Peal peal) {
        refused(call + ": BAD SHELF ahead of BAD n", x -> peal.of(x, 8, 41), Due.BAD);
        refused(call + ": BAD n ahead of OTHER", x -> peal.of(x, 2, 41), Due.BAD);
        refused(call + ": BAD n ahead of OTHER", x -> peal.of(x, 2, -1), Due.BAD);
        refused(call + ": BAD n ahead of NOTHING", x -> peal.of(x, 4, 41), Due.BAD);
        refused(call + ": BAD n ahead of NOTHING", x -> peal.of(x, 4, -1), Due.BAD);
        refused(call + ": OTHER ahead of fewer elements", x -> peal.of(x, 2, 40), Due.OTHER);
        refused(call + ": NOTHING ahead of fewer elements", x -> peal.of(x, 4, 40), Due.NOTHING);
    }

    /** Each number of each call, one beside those that may be: most have a test by promise, too. */
    private static void bad() {
        Supplier<RungBackwards> none = RungBackwards::new;
        Due.refused("thingOf, there is none", none, x -> x.thingOf(0, 0), Due.BAD);
        Due.refused("ringerOf, there is none", none, x -> x.ringerOf(0, 0), Due.BAD);
        Due.refused("give, there is none", none, x -> x.give(0, 0, 0), Due.BAD);
        Due.refused("ring, there is none", none, x -> x.ring(0), Due.BAD);
        Due.refused("show, there is none", none, x -> x.show(0, 0), Due.BAD);
        Due.refused("to, there is none", none, x -> x.to(1), Due.BAD);
        Due.refused("well, there is none", none, x -> x.well(1), Due.BAD);
        refused("a THING that may not be", x -> x.off(Integer.MAX_VALUE), Due.BAD);
        refused("a THING that may not be", x -> x.off(Integer.MIN_VALUE), Due.BAD);
        refused("what may not be", x -> x.all(Integer.MIN_VALUE), Due.BAD);
        refused("a letter that may not be", x -> x.feed(Integer.MIN_VALUE), Due.BAD);
    }

    private static void other() {
        refused("a RINGER where a ROW is wanted, set", x -> x.set(2, 0, 0), Due.OTHER);
        refused("a RINGER where a ROW is wanted, copy from", x -> x.copy(2, 0, 0, 0, 0), Due.OTHER);
        refused("a RINGER where a ROW is wanted, copy to", x -> x.copy(0, 2, 0, 0, 0), Due.OTHER);
        refused("a RINGER where a ROW is wanted, judge", x -> x.judge(2, 0), Due.OTHER);
        refused("a RINGER where a ROW is wanted, behind", x -> x.behind(2, 0, 0), Due.OTHER);
        refused("a ROW where a RINGER is wanted, says", x -> x.says(0, 0), Due.OTHER);
        refused("a RINGER of another KIND, says", x -> x.says(2, 2), Due.OTHER);
        refused("a ROW of another SORT, copy", x -> x.copy(0, 3, 0, 0, 0), Due.OTHER);
    }

    private static void nothing() {
        for (int s : new int[] {4, 6, 7}) {
            refused("set", x -> x.set(s, 0, 0), Due.NOTHING);
            refused("copy from", x -> x.copy(s, 0, 0, 0, 0), Due.NOTHING);
            refused("copy to", x -> x.copy(0, s, 0, 0, 0), Due.NOTHING);
            refused("copy onto itself", x -> x.copy(s, s, 0, 0, 0), Due.NOTHING);
            refused("says", x -> x.says(s, 0), Due.NOTHING);
            refused("judge", x -> x.judge(s, 0), Due.NOTHING);
            refused("behind", x -> x.behind(s, 0, 0), Due.NOTHING);
        }
        Edge.taken("a ROW of no elements isn't NOTHING", Towers::rich, (x, v) -> x.row(6, v, 0) + x.judge(6, 0), 0);
    }

    private static void stuck() {
        refused("ring", x -> x.ring(1), Due.STUCK);
        refused("behind", x -> x.behind(5, 3, 0), Due.STUCK);
        Due.refused("years", Towers::noThings, x -> x.years(1), Due.STUCK);
        Due.refused("back", Due::steeple, x -> x.back(), Due.STUCK);
    }

    private static void full() {
        Due.refused("thing", Towers::tenThings, x -> x.thing(99, 3), Due.FULL);
        Due.refused("ringer", Towers::sixRingers, x -> x.ringer(5, 9, 7), Due.FULL);
        Due.refused("feed", RefusalEdges::fullTape, x -> x.feed(255), Due.FULL);
    }
}
