/** Terms, told peals, ringing in truth, days, years by draws, shelves. */
final class TruthEdges {
    private static final String TERMS = "Terms";

    private TruthEdges() {
    }

    static void all() {
        Edge.of(TERMS, "A told PEAL: a ROW of THINGS, each rung back if it has BEEN by then, else forwards, in the WEATHER "
            + "now:", TruthEdges::peal);
        Edge.of(TERMS, "WRONG: the first that isn't there or MAY not; NONE.", TruthEdges::wrong);
        Edge.of(TERMS, "BEHIND it: what STANDS (bits); VALUE.", TruthEdges::behind);
        Edge.of(TERMS, "IN TRUTH: a THING is rung back, or forwards (MAY).", TruthEdges::inTruth);
        Edge.of(TERMS, "A day: WEATHER is the next (modulo 4).", TruthEdges::day);
        Edge.of(TERMS, "YEARS by draws, n: each: YEAR 1 more (999 at most),", TruthEdges::year);
        Edge.of(TERMS, "AGES of all that have BEEN 1 more (99 at most);", TruthEdges::ages);
        Edge.of(TERMS, "WEATHER is a DRAW below 4;", TruthEdges::weatherDrawn);
        Edge.of(TERMS, "a THING (a DRAW below how many) is rung back, or forwards, if it MAY,", TruthEdges::thingDrawn);
        Edge.of(TERMS, "by a RINGER (a DRAW below how many, drawn all the same for one that MAY not; none: no DRAW, "
            + "nobody slips),", TruthEdges::ringerDrawn);
        Edge.of(TERMS, "who slips, if a DRAW below 100 is below SLIP:", TruthEdges::slipDrawn);
        Edge.of(TERMS, "then the next THING (modulo) is rung instead, if it MAY;", TruthEdges::nextRung);
        Edge.of(TERMS, "then a bell, a DRAW below 8, is CRACKED, if a DRAW below 10 behind that is 0;",
            TruthEdges::bellDrawn);
        Edge.of(TERMS, "how many were rung.", TruthEdges::howMany);
        Edge.of(TERMS, "A DRAW below n: SEED (1 at first) becomes SEED times 1103515245, and 12345 (an int, wrapping); its "
            + "upper 16 bits, no sign, modulo n.", TruthEdges::draw);
        Edge.of(TERMS, "SHELVES 0 to 7 hold NOTHING (at first), a ROW, or a RINGER.", TruthEdges::shelves);
        Edge.of(TERMS, "A ROW has a SORT (0 bytes, 1 shorts, 2 ints, 3 longs, 4 booleans)", TruthEdges::sorts);
        Edge.of(TERMS, "and 0 to 40 elements (0, or not so, at first);", TruthEdges::elements);
        Edge.of(TERMS, "what is put in keeps its lowest bits (of booleans: whether it is not 0);", TruthEdges::lowestBits);
        Edge.of(TERMS, "told they are numbers (1, 0).", TruthEdges::toldNumbers);
    }

    // ---- told peals

    private static void peal() {
        RungBackwards x = Due.steeple();
        // 4 forwards, back, forwards; 0 back, forwards, back
        Towers.put(x, 0, 0, 4, 4, 4, 0, 0, 0);
        int[] stand = {47, 63, 47, 63, 20, 63, 20};
        for (int n = 0; n <= 6; n++) {
            Due.due("judge " + n, x.judge(0, n), -1);
            Due.due("STAND behind " + n, x.behind(0, n, 0), stand[n]);
        }
        x.tell(0, 3);
        Towers.put(x, 1, 0, 4, 4, 5, 5, 5);
        Due.due("one rung forwards is of the WEATHER now", x.judge(1, 5), -1);
        Due.due("in truth nothing was rung", x.all(2), 47);
        Due.due("nor its WEATHER changed", x.thingOf(4, 1), 0);
        Towers.put(x, 2, 0, 0);
        Due.due("another WEATHER", x.judge(2, 1), 0);
    }

    private static void wrong() {
        RungBackwards x = Towers.tenThings();
        long[] notThere = {-1, 10, 11, Integer.MIN_VALUE, Integer.MAX_VALUE, Long.MIN_VALUE, Long.MAX_VALUE, 1L << 32,
            (1L << 32) + 9, -(1L << 32)};
        for (long thing : notThere) {
            Towers.put(x, 0, 3, 9, 0, thing, thing);
            Due.due(thing + " isn't there, ahead of it", x.judge(0, 2), -1);
            Due.due(thing + " isn't there", x.judge(0, 3), 2);
            Due.due(thing + " isn't there, the first", x.judge(0, 4), 2);
        }
        Towers.put(x, 1, 0, 0, 9);
        Due.due("the first and the last are there", x.judge(1, 2), -1);
        x.give(1, 1, 3);
        x.tell(2, 4);
        Towers.put(x, 1, 0, 1);
        Due.due("the first MAY not, for WEATHER", x.judge(1, 1), 0);
        Towers.put(x, 1, 0, 0, 2);
        Due.due("the second MAY not, for a crack", x.judge(1, 2), 1);
        x.give(2, 3, 0);
        Due.due("nor forwards", x.judge(1, 2), 1);
        RungBackwards none = new RungBackwards();
        none.row(0, 0, 1);
        Due.due("nothing is there", none.judge(0, 1), 0);
        Due.due("no element is told", none.judge(0, 0), -1);
        RungBackwards long40 = Towers.tenThings();
        long40.row(0, 2, 40);
        long40.set(0, 39, 10);
        Due.due("39 of 40", long40.judge(0, 39), -1);
        Due.due("the 40th is WRONG", long40.judge(0, 40), 39);
    }

    private static void behind() {
        RungBackwards x = Towers.ladder();
        Towers.put(x, 0, 1, 9, 5, 0, 0);
        int[] stand = {1023, 511, 31, 0, 31};
        int[] value = {10, 9, 5, 0, 5};
        for (int n = 0; n <= 4; n++) {
            Due.due("STAND behind " + n, x.behind(0, n, 0), stand[n]);
            Due.due("VALUE behind " + n, x.behind(0, n, 1), value[n]);
        }
        Due.due("STAND now", x.all(0), 1023);
    }

    // ---- in truth

    private static void inTruth() {
        RungBackwards x = Towers.ladder();
        Due.due("back", x.ring(9), 9);
        Due.due("it hasn't BEEN", x.thingOf(9, 3), 0);
        x.tell(0, 1);
        Due.due("forwards", x.ring(9), 10);
        Due.due("it has BEEN", x.thingOf(9, 3), 1);
        Due.due("back, of the WEATHER it was rung in", x.ring(9), 9);
        Due.due("another's WEATHER is another", x.ring(8), Due.STUCK);
        x.tell(0, 0);
        x.tell(2, 2);
        Due.due("its bell is CRACKED", x.ring(9), Due.STUCK);
        Due.due("8 is OPEN", x.ring(8), 8);
        Due.due("BEEN", x.all(2), 255);
    }

    private static void day() {
        for (int weather = 0; weather <= 3; weather++) {
            RungBackwards x = Due.steeple();
            x.tell(0, weather);
            Due.due("behind " + weather, x.day(), weather == 3 ? 0 : weather + 1);
            Due.due("it is", x.status(2), weather == 3 ? 0 : weather + 1);
        }
        RungBackwards x = new RungBackwards();
        for (int i = 1; i <= 9; i++) {
            Due.due("day " + i, x.day(), i % 4);
        }
        Due.due("no year", x.status(3), 0);
        Due.due("no draw", x.status(7), 1);
    }

    // ---- years by draws

    /** No bell is CRACKED in the year that is drawn from that SEED, without RINGERS. */
    private static int quiet(int things, int weather, int thing) {
        return Draws.seedOf(4, weather, things, thing, 8, -1, 10, 1);
    }

    private static void year() {
        int[][] years = {{0, 1}, {1, 2}, {997, 998}, {998, 999}, {999, 999}};
        for (int[] y : years) {
            RungBackwards x = Towers.oneThing();
            x.tell(1, y[0]);
            x.years(1);
            Due.due("behind " + y[0], x.status(3), y[1]);
        }
        int[][] sixty = {{0, 60}, {938, 998}, {939, 999}, {940, 999}, {999, 999}};
        for (int[] y : sixty) {
            RungBackwards x = Towers.oneThing();
            x.tell(1, y[0]);
            x.years(60);
            Due.due("60 behind " + y[0], x.status(3), y[1]);
        }
    }

    private static void ages() {
        int[][] ages = {{0, 1}, {1, 2}, {97, 98}, {98, 99}, {99, 99}};
        for (int[] age : ages) {
            RungBackwards x = Towers.things(3);
            for (int i = 0; i < 3; i++) {
                x.give(i, 2, age[0]);
            }
            x.give(1, 3, 0);
            x.hang(2, 1, 1);
            x.seed(quiet(3, 1, 0));
            Due.due("none is rung", x.years(1), 0);
            Due.due("AGE " + age[0], x.thingOf(0, 2), age[1]);
            Due.due("AGE of one that hasn't BEEN", x.thingOf(1, 2), age[0]);
            Due.due("AGE of one that has BEEN and doesn't STAND", x.thingOf(2, 2), age[1]);
        }
        RungBackwards x = Towers.twoThings();
        x.give(0, 2, 50);
        x.seed(quiet(2, 0, 0));
        Due.due("one is rung back", x.years(1), 1);
        Due.due("AGES come ahead of ringing", x.thingOf(0, 2), 51);
        x.seed(quiet(2, 3, 0));
        Due.due("it is rung forwards", x.years(1), 1);
        Due.due("its AGE is 1 less alone", x.thingOf(0, 2), 50);
        Due.due("another's is 1 more", x.thingOf(1, 2), 2);
    }

    private static void weatherDrawn() {
        for (int weather = 0; weather <= 3; weather++) {
            RungBackwards x = Towers.oneThing();
            x.seed(quiet(1, weather, 0));
            x.years(1);
            Due.due("WEATHER drawn", x.status(2), weather);
        }
        RungBackwards x = Towers.oneThing();
        x.give(0, 1, 3);
        x.seed(quiet(1, 3, 0));
        Due.due("it is drawn ahead of ringing", x.years(1), 1);
    }

    private static void thingDrawn() {
        for (int n : new int[] {1, 2, 3, 9, 10}) {
            for (int thing = 0; thing < n; thing++) {
                RungBackwards x = Towers.things(n);
                x.seed(quiet(n, 0, thing));
                Due.due(thing + " of " + n + " is rung back", x.years(1), 1);
                Due.due("the others have BEEN", x.all(2), (1 << n) - 1 - (1 << thing));
                x.seed(quiet(n, 2, thing));
                Due.due(thing + " of " + n + " is rung forwards", x.years(1), 1);
                Due.due("all have BEEN", x.all(2), (1 << n) - 1);
                Due.due("its WEATHER is the one drawn", x.thingOf(thing, 1), 2);
                x.seed(quiet(n, 1, thing));
                Due.due(thing + " of " + n + " MAY not, for WEATHER", x.years(1), 0);
                Due.due("all have BEEN", x.all(2), (1 << n) - 1);
                x.tell(2, 1 << thing % 8);
                x.seed(quiet(n, 2, thing));
                Due.due(thing + " of " + n + " MAY not, for a crack", x.years(1), 0);
            }
        }
    }

    private static int seedBehind(int seed, int... below) {
        Draws draws = new Draws(seed);
        for (int n : below) {
            draws.below(n);
        }
        return draws.seed;
    }

    private static void ringerDrawn() {
        RungBackwards none = Towers.twoThings();
        none.seed(5);
        none.years(1);
        Due.due("none: no DRAW", none.status(7), seedBehind(5, 4, 2, 8, 10));
        for (int n : new int[] {1, 2, 6}) {
            RungBackwards x = Towers.twoThings();
            for (int i = 0; i < n; i++) {
                x.ringer(4, 0, 0);
            }
            x.seed(Draws.seedOf(4, 0, 2, 1, n, n - 1, 100, 99, 8, -1, 10, 1));
            int seed = x.status(7);
            Due.due("by the last of " + n, x.years(1), 1);
            Due.due("two draws more", x.status(7), seedBehind(seed, 4, 2, n, 100, 8, 10));
            x.seed(Draws.seedOf(4, 3, 2, 0, n, n - 1, 100, 99, 8, -1, 10, 1));
            seed = x.status(7);
            Due.due("one that MAY not, by the last of " + n, x.years(1), 0);
            Due.due("he is drawn all the same", x.status(7), seedBehind(seed, 4, 2, n, 100, 8, 10));
        }
        // A MASTER slips by 5, a LEARNER by 57: who was drawn shows by a slip of 30.
        for (int drawn = 0; drawn <= 1; drawn++) {
            RungBackwards x = Towers.twoThings();
            x.ringer(4, 0, 0);
            x.ringer(1, 9, 0);
            x.seed(Draws.seedOf(4, 0, 2, 0, 2, drawn, 100, 30, 8, -1, 10, 1));
            Due.due("one is rung", x.years(1), 1);
            Due.due("ringer " + drawn + " was drawn", x.all(2), drawn == 0 ? 2 : 1);
        }
    }

    /** Which of two THINGS is rung, if the first is drawn and a RINGER's slip so. */
    private static int rungBy(int kind, int a, boolean cracked, int slip) {
        RungBackwards x = Towers.twoThings();
        x.ringer(kind, a, 7);
        x.tell(2, cracked ? 128 : 0);
        x.seed(Draws.seedOf(4, 0, 2, 0, 1, 0, 100, slip, 8, -1, 10, 1));
        return x.years(1) == 1 ? 2 - x.all(2) : -1;
    }

    private static void slipDrawn() {
        int[] slips = {13, 39, 10, 20, 5, 13};
        for (int kind = 0; kind <= 5; kind++) {
            Due.due("0 of " + kind, rungBy(kind, 3, false, 0), 1);
            Due.due("1 less than SLIP of " + kind, rungBy(kind, 3, false, slips[kind] - 1), 1);
            Due.due("SLIP of " + kind, rungBy(kind, 3, false, slips[kind]), 0);
            Due.due("1 more than SLIP of " + kind, rungBy(kind, 3, false, slips[kind] + 1), 0);
            Due.due("99 of " + kind, rungBy(kind, 3, false, 99), 0);
        }
        Due.due("49 of a DEAF one, CRACKED", rungBy(5, 3, true, 49), 1);
        Due.due("50 of a DEAF one, CRACKED", rungBy(5, 3, true, 50), 0);
    }

    private static void nextRung() {
        for (int n : new int[] {1, 2, 3, 10}) {
            for (int thing = 0; thing < n; thing++) {
                RungBackwards x = Towers.things(n);
                x.ringer(1, 9, 7);
                int next = thing == n - 1 ? 0 : thing + 1;
                x.seed(Draws.seedOf(4, 0, n, thing, 1, 0, 100, 0, 8, -1, 10, 1));
                Due.due("instead of " + thing + " of " + n, x.years(1), 1);
                Due.due(next + " is rung", x.all(2), (1 << n) - 1 - (1 << next));
            }
        }
        RungBackwards x = Towers.things(3);
        x.ringer(1, 9, 7);
        x.give(0, 1, 3);
        x.seed(Draws.seedOf(4, 0, 3, 2, 1, 0, 100, 0, 8, -1, 10, 1));
        Due.due("the next MAY not, for WEATHER", x.years(1), 0);
        Due.due("nor is the one drawn rung", x.all(2), 7);
        x.tell(2, 2);
        x.seed(Draws.seedOf(4, 3, 3, 0, 1, 0, 100, 0, 8, -1, 10, 1));
        Due.due("the next MAY not, for a crack", x.years(1), 0);
        Due.due("nor is the one drawn rung", x.all(2), 7);
        x.tell(2, 0);
        x.give(1, 3, 0);
        x.seed(Draws.seedOf(4, 2, 3, 0, 1, 0, 100, 0, 8, -1, 10, 1));
        Due.due("the next is rung forwards", x.years(1), 1);
        Due.due("all have BEEN", x.all(2), 7);
        Due.due("its WEATHER", x.thingOf(1, 1), 2);
    }

    private static void bellDrawn() {
        for (int bell = 0; bell <= 7; bell++) {
            RungBackwards x = Towers.tenThings();
            x.seed(Draws.seedOf(4, 0, 10, bell, 8, bell, 10, 0));
            Due.due("CRACKED behind ringing", x.years(1), 1);
            Due.due(bell + " is CRACKED", x.status(4), 1 << bell);
            x.tell(2, 255 - (1 << bell));
            x.seed(Draws.seedOf(4, -1, 10, -1, 8, bell, 10, 0));
            x.years(1);
            Due.due(bell + " besides others", x.status(4), 255);
            x.seed(Draws.seedOf(4, -1, 10, -1, 8, bell, 10, 0));
            x.years(1);
            Due.due(bell + " again", x.status(4), 255);
        }
        for (int other = 1; other <= 9; other++) {
            RungBackwards x = Towers.tenThings();
            x.seed(Draws.seedOf(4, -1, 10, -1, 8, 0, 10, other));
            x.years(1);
            Due.due("none is CRACKED by " + other, x.status(4), 0);
        }
    }

    private static void howMany() {
        RungBackwards x = Towers.oneThing();
        x.seed(quiet(1, 0, 0));
        Due.due("one", x.years(1), 1);
        x.seed(Draws.seedOf(4, 0, 1, 0, 8, -1, 10, 1, 4, 1, 1, 0, 8, -1, 10, 1, 4, 2, 1, 0, 8, -1, 10, 1));
        Due.due("forwards, then MAY not twice", x.years(3), 1);
        x.seed(Draws.seedOf(4, 0, 1, 0, 8, -1, 10, 1, 4, 1, 1, 0, 8, -1, 10, 1, 4, 1, 1, 0, 8, -1, 10, 1));
        Due.due("back, forwards, back", x.years(3), 3);
        x.tell(2, 255);
        Due.due("all shut", x.years(60), 0);
    }

    private static void draw() {
        Due.due("SEED at first", new RungBackwards().status(7), 1);
        // Each SEED, its next one, and what is drawn below 4 then: by hand.
        int[][] seeds = {{0, 12345, 0}, {1, 1103527590, 2}, {-1, -1103502900, 1}, {Integer.MAX_VALUE, 1043980748, 1},
            {Integer.MIN_VALUE, -2147471303, 0}, {12345, -740551042, 0}, {-5, -1222596584, 0}};
        for (int[] s : seeds) {
            RungBackwards x = Towers.oneThing();
            x.seed(s[0]);
            x.years(1);
            Due.due("below 4, of " + s[0], x.status(2), s[2]);
            Due.due("four draws behind " + s[0], x.status(7), seedBehind(s[1], 1, 1, 1));
            Due.due("as told again", seedBehind(s[0], 4), s[1]);
        }
        // A second draw whose highest bit is set: with a sign it would be below 0, and no THING.
        int seed = Draws.seedBy(d -> d.below(4) == 0 && d.below(10) == 7 && d.seed < 0);
        RungBackwards x = Towers.tenThings();
        x.seed(seed);
        Due.due("one is rung by a draw without sign", x.years(1), 1);
        Due.due("it is 7", x.all(2), 1023 - 128);
    }

    // ---- shelves

    private static void shelves() {
        RungBackwards x = new RungBackwards();
        x.ringer(0, 0, 0);
        for (int s = 0; s <= 7; s++) {
            Due.due("at first", x.holds(s), -1);
            Due.due("a ROW", x.row(s, 4, 1), 1);
            Due.due("it holds", x.holds(s), 4);
            Due.due("a RINGER", x.show(s, 0), 1);
            Due.due("it holds", x.holds(s), 10);
            Due.due("how many hold something", x.status(8), s + 1);
        }
        Due.due("ahead of the first", x.holds(-1), -1);
        Due.due("behind the last", x.holds(8), -1);
        Edge.bounds("row(s, 0, 1)", Towers::rich, (y, v) -> y.row(v, 0, 1), 0, 7);
        Edge.bounds("show(s, 0)", Towers::rich, (y, v) -> y.show(v, 0), 0, 7);
    }

    private static void sorts() {
        Edge.bounds("row(0, sort, 1)", Towers::rich, (y, v) -> y.row(0, v, 1), 0, 4);
        RungBackwards x = new RungBackwards();
        // What each SORT keeps of a number with all kinds of bits tells which it is.
        long[] kept = {-17, -12817, -1985229329, 81985529216486895L, 1};
        for (int sort = 0; sort <= 4; sort++) {
            x.row(sort, sort, 1);
            x.set(sort, 0, 0x0123456789ABCDEFL);
            Due.due("SORT", x.holds(sort), sort);
            Due.due("kept by " + sort, x.element(sort, 0), kept[sort]);
        }
    }

    private static void elements() {
        Edge.bounds("row(0, 3, n)", Towers::rich, (y, v) -> y.row(0, 3, v), 0, 40);
        for (int sort = 0; sort <= 4; sort++) {
            RungBackwards x = new RungBackwards();
            x.row(7, sort, 40);
            for (int i = 0; i < 40; i++) {
                Due.due("at first", x.element(7, i), 0);
                x.set(7, i, 1);
            }
            Due.due("the last", x.element(7, 39), 1);
            Due.due("behind the last", x.set(7, 40, 1), Due.BAD);
            x.row(7, sort, 40);
            for (int i = 0; i < 40; i++) {
                Due.due("of a new one at first", x.element(7, i), 0);
            }
            x.row(7, sort, 0);
            Due.due("of none there is no first", x.set(7, 0, 1), Due.BAD);
            x.row(7, sort, 1);
            Due.due("of one there is a first", x.set(7, 0, 1), 1);
            Due.due("of one there is no second", x.set(7, 1, 1), Due.BAD);
        }
    }

    private static void lowestBits() {
        long[][] kept = {
            {0, 127, 127}, {0, 128, -128}, {0, -128, -128}, {0, -129, 127}, {0, 255, -1}, {0, 256, 0}, {0, Long.MIN_VALUE, 0},
            {0, Long.MAX_VALUE, -1},
            {1, 32767, 32767}, {1, 32768, -32768}, {1, -32768, -32768}, {1, -32769, 32767}, {1, 65535, -1}, {1, 65536, 0},
            {2, Integer.MAX_VALUE, Integer.MAX_VALUE}, {2, 1L << 31, Integer.MIN_VALUE}, {2, Integer.MIN_VALUE, Integer.MIN_VALUE},
            {2, -1L - (1L << 31), Integer.MAX_VALUE}, {2, (1L << 32) - 1, -1}, {2, 1L << 32, 0},
            {3, Long.MAX_VALUE, Long.MAX_VALUE}, {3, Long.MIN_VALUE, Long.MIN_VALUE}, {3, -1, -1},
            {4, 0, 0}, {4, 1, 1}, {4, -1, 1}, {4, 2, 1}, {4, 256, 1}, {4, 1L << 32, 1}, {4, Long.MIN_VALUE, 1}};
        for (long[] k : kept) {
            RungBackwards x = new RungBackwards();
            x.row(0, (int) k[0], 1);
            Due.due("put in", x.set(0, 0, k[1]), 1);
            Due.due("SORT " + k[0] + " keeps of " + k[1], x.element(0, 0), k[2]);
        }
    }

    private static void toldNumbers() {
        RungBackwards x = Towers.twoThings();
        Towers.put(x, 0, 4, 0, 7, 0);
        Due.due("not so", x.element(0, 0), 0);
        Due.due("so", x.element(0, 1), 1);
        Due.due("a peal of them", x.judge(0, 3), -1);
        Due.due("0 and 1 rung back, 0 forwards", x.behind(0, 3, 0), 1);
    }
}
