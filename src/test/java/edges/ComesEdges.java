/** Terms, 3. WHAT COMES OF IT, as far as nothing is changed. */
final class ComesEdges {
    private static final String TERMS = "Terms";

    private ComesEdges() {
    }

    static void all() {
        Edge.of(TERMS, "==== 3. WHAT COMES OF IT (nothing is changed)", ComesEdges::nothingIsChanged);
        Edge.of(TERMS, "VALUE: WORTH of all that STAND together.", ComesEdges::value);
        Edge.of(TERMS, "DOWN of a THING: all (bits) it hangs on, and they on, and so on.", ComesEdges::down);
        Edge.of(TERMS, "UP: all (bits) that hang on it, or on such.", ComesEdges::up);
        Edge.of(TERMS, "TO a told set of THINGS (bits) that are just those to STAND: the least set (fewest, then least "
            + "bits) of THINGS to be rung back, WEATHER and CRACKS being nothing, by which just these STAND; NONE.",
            ComesEdges::to);
        Edge.of(TERMS, "BACK of told THINGS: the least set (fewest, then least bits), WEATHER and CRACKS being nothing, "
            + "by which none of these STANDS and as many others as can be do (first most others, then fewest).",
            ComesEdges::unsay);
        Edge.of(TERMS, "ORDER of WEATHERS for told THINGS (all to be rung back, each in its own): if WEATHERS come 0, 1, "
            + "2, 3, 0, .. from the one now on, a day each: how many days till all are rung (1: today);",
            ComesEdges::order);
        Edge.of(TERMS, "0: none is told;", ComesEdges::orderOfNone);
        Edge.of(TERMS, "NONE: one hasn't BEEN, or isn't OPEN.", ComesEdges::noOrder);
        Edge.of(TERMS, "SLIPPED: if ringing a THING back slips by k (1 to 9),", ComesEdges::slippedBy);
        Edge.of(TERMS, "the THING of number k more (modulo how many there are)", ComesEdges::slippedModulo);
        Edge.of(TERMS, "hasn't BEEN instead (if it had): OFF by that (bits).", ComesEdges::slippedOff);
        Edge.of(TERMS, "WHOSE: RINGERS (bits) with SLIP of v at least (0 to 99).", ComesEdges::whose);
        Edge.of(TERMS, "CREW of n (0 to 6): the n RINGERS by whom WELL is greatest, of several the least as bits;",
            ComesEdges::crew);
        Edge.of(TERMS, "NONE: not so many.", ComesEdges::noCrew);
        Edge.of(TERMS, "PUT BACK: by how many THINGS rung forwards, at the least, a told THING STANDS again (all it "
            + "hangs on, too);", ComesEdges::putBack);
        Edge.of(TERMS, "0: it STANDS;", ComesEdges::putBackNothing);
        Edge.of(TERMS, "NONE: one of them isn't OPEN.", ComesEdges::putBackShut);
        Edge.of(TERMS, "KINDS (bits) of a RINGER by which his SLIP is v.", ComesEdges::kinds);
    }

    /** Every call that asks, with numbers that may be and some that may not. */
    private static void nothingIsChanged() {
        RungBackwards x = Towers.rich();
        RungBackwards left = Towers.rich();
        for (int v = 0; v <= 1; v++) {
            long asked = x.off(v) + x.down(v) + x.up(v) + x.to(v) + x.unsay(v) + x.until(v) + x.slipped(v, 1) + x.whose(v)
                + x.crew(v) + x.putBack(4) + x.parishes(5, v) + x.deaf(16, v) + x.kinds(v, 10) + x.worst(v) + x.best(v)
                + x.depth(5) + x.ends(v) + x.common(v, 3) + x.weatherFor(v) + x.bell(v) + x.pair(v) + x.under(v)
                + x.pillar() + x.ways(v) + x.oldest(v) + x.once(v) + x.soon(v) + x.inWeather(v) + x.chain(5) + x.alone(v)
                + x.ofKind(v) + x.judge(5, v) + x.behind(5, v, v) + x.well(v) + x.all(v) + x.thingOf(v, 5)
                + x.ringerOf(v, 3) + x.element(0, v) + x.holds(v) + x.says(2, v) + x.judge(5, 3) + x.status(v);
            Due.due("they were asked", asked == Long.MIN_VALUE ? 1 : 0, 0);
        }
        Due.counted("asking", x, left, 0);
        Due.same("asking changed", Due.stateOf(x), Due.stateOf(left));
        Due.due("THE TAPE is as it was", x.tower(), 2);
        Due.due("so is what was kept", x.back(), 1);
        Due.due("year", x.status(3), 998);
    }

    private static void value() {
        Due.due("nothing", new RungBackwards().status(5), 0);
        RungBackwards x = new RungBackwards();
        for (int i = 0; i < 10; i++) {
            x.thing(99, 0);
            Due.due("of " + i, x.status(5), 99 * (i + 1));
        }
        x.hang(9, 0, 1);
        x.give(0, 3, 0);
        Due.due("of all that STAND", x.status(5), 792);
        Due.due("by all, too", x.all(1), 792);
        for (int i = 1; i < 9; i++) {
            x.give(i, 3, 0);
        }
        Due.due("none STANDS", x.status(5), 0);
        Due.due("none of WORTH", Due.towerOf("thing 0 0").status(5), 0);
    }

    private static void down() {
        Edge.each("down a ladder", Towers::ladder, (x, v) -> x.down(v), 0, 1, 3, 7, 15, 31, 63, 127, 255, 511);
        Edge.each("down a thicket", Towers::thicket, (x, v) -> x.down(v), 0, 1, 3, 7, 15, 31, 63, 127, 255, 511);
        Edge.each("down of singles", Towers::tenThings, (x, v) -> x.down(v), 0, 0, 0, 0, 0, 0, 0, 0, 0, 0);
        Edge.each("down a steeple", Towers::silent, (x, v) -> x.down(v), 0, 1, 0, 7, 4, 15);
    }

    private static void up() {
        Edge.each("up a ladder", Towers::ladder, (x, v) -> x.up(v), 1022, 1020, 1016, 1008, 992, 960, 896, 768, 512, 0);
        Edge.each("up a thicket", Towers::thicket, (x, v) -> x.up(v), 1022, 1020, 1016, 1008, 992, 960, 896, 768, 512, 0);
        Edge.each("up of singles", Towers::tenThings, (x, v) -> x.up(v), 0, 0, 0, 0, 0, 0, 0, 0, 0, 0);
        Edge.each("up a steeple", Towers::silent, (x, v) -> x.up(v), 42, 40, 56, 32, 0, 0);
    }

    private static RungBackwards shutLadder() {
        RungBackwards x = Towers.ladder();
        x.tell(0, 3);
        x.tell(2, 255);
        return x;
    }

    private static void to() {
        Edge.told("nothing there", RungBackwards::new, x -> x.to(0), 0);
        Edge.told("all are to STAND", ComesEdges::shutLadder, x -> x.to(1023), 0);
        Edge.told("none is to STAND", ComesEdges::shutLadder, x -> x.to(0), 1);
        for (int n = 1; n < 10; n++) {
            int first = (1 << n) - 1;
            int ring = 1 << n;
            Edge.told("the first " + n + " are to STAND", ComesEdges::shutLadder, x -> x.to(first), ring);
        }
        Edge.told("the first isn't, the second is", ComesEdges::shutLadder, x -> x.to(2), -1);
        Edge.told("all singles are to fall", Towers::tenThings, x -> x.to(0), 1023);
        Edge.told("the last alone", Towers::tenThings, x -> x.to(512), 511);
        Edge.told("what STANDS already", Due::steeple, x -> x.to(47), 0);
        Edge.told("what hasn't BEEN can't STAND", Due::steeple, x -> x.to(63), -1);
        Edge.told("what doesn't STAND now can't", Towers::silent, x -> x.to(1), -1);
        Edge.told("nothing has BEEN", Towers::silent, x -> x.to(0), 0);
    }

    private static void unsay() {
        Edge.told("nothing there", RungBackwards::new, x -> x.unsay(0), 0);
        Edge.told("none is told", ComesEdges::shutLadder, x -> x.unsay(0), 0);
        Edge.told("all are told", ComesEdges::shutLadder, x -> x.unsay(1023), 1);
        for (int i = 0; i < 10; i++) {
            int bit = 1 << i;
            Edge.told(i + " is told", ComesEdges::shutLadder, x -> x.unsay(bit), bit);
            Edge.told(i + " and the last are told", ComesEdges::shutLadder, x -> x.unsay(bit | 512), bit);
        }
        Edge.told("all singles", Towers::tenThings, x -> x.unsay(1023), 1023);
        Edge.told("what doesn't STAND already", Due::steeple, x -> x.unsay(16), 0);
        Edge.told("nothing has BEEN", Towers::silent, x -> x.unsay(63), 0);
        RungBackwards fan = Towers.things(4);
        for (int i = 1; i < 4; i++) {
            fan.hang(i, 0, 1);
        }
        Due.due("most others first: three rung rather than the one below", fan.unsay(14), 14);
        Due.due("fewest then: the one below alone", fan.unsay(15), 1);
        fan.thing(1, 0);
        Due.due("most others first, though fewer of greater bits would do", fan.unsay(14), 14);
    }

    private static RungBackwards weathers(int now) {
        RungBackwards x = new RungBackwards();
        for (int i = 0; i < 4; i++) {
            x.thing(1, i);
        }
        x.tell(0, now);
        return x;
    }

    private static void order() {
        for (int now = 0; now <= 3; now++) {
            RungBackwards x = weathers(now);
            for (int i = 0; i < 4; i++) {
                int days = (i - now + 4) % 4 + 1;
                Due.due("from " + now + " till " + i, x.until(1 << i), days);
                Due.due("soon", x.soon(i), days);
            }
            Due.due("from " + now + " till all", x.until(15), 4);
            Due.due("today's and the next", x.until(1 << now | 1 << (now + 1) % 4), 2);
            Due.due("today's and the last", x.until(1 << now | 1 << (now + 3) % 4), 4);
        }
        Due.due("all today", Towers.tenThings().until(1023), 1);
    }

    private static void orderOfNone() {
        Edge.told("none", Towers::tenThings, x -> x.until(0), 0);
        Edge.told("nothing there", RungBackwards::new, x -> x.until(0), 0);
        Edge.told("nothing has BEEN", Towers::silent, x -> x.until(0), 0);
        Edge.told("all shut", ComesEdges::shutLadder, x -> x.until(0), 0);
    }

    private static void noOrder() {
        Edge.told("one hasn't BEEN", Due::steeple, x -> x.until(16), -1);
        Edge.told("one of several hasn't BEEN", Due::steeple, x -> x.until(63), -1);
        Edge.told("the others have", Due::steeple, x -> x.until(47), 4);
        Edge.told("a bell of none of them is CRACKED", Towers::rich, x -> x.until(47), 4);
        RungBackwards x = Towers.tenThings();
        x.tell(2, 2);
        Due.due("the last isn't OPEN", x.until(512), -1);
        Due.due("one of several isn't", x.until(1023), -1);
        Due.due("the others are", x.until(1023 - 514), 1);
        Due.due("soon", x.soon(9), -1);
        Due.due("soon, OPEN", x.soon(8), 1);
    }

    private static void slippedBy() {
        Edge.bounds("slipped(1, k)", Towers::rich, (x, v) -> x.slipped(1, v), 1, 9);
        RungBackwards x = Towers.tenThings();
        for (int k = 1; k <= 9; k++) {
            Due.due("by " + k, x.slipped(0, k), 1 << k);
        }
    }

    private static void slippedModulo() {
        RungBackwards ten = Towers.tenThings();
        Due.due("to the last", ten.slipped(8, 1), 512);
        Due.due("from the last", ten.slipped(9, 1), 1);
        Due.due("behind the first", ten.slipped(9, 2), 2);
        Due.due("to the one ahead", ten.slipped(9, 9), 256);
        for (int n = 1; n <= 9; n++) {
            RungBackwards x = Towers.things(n);
            Due.due("of " + n + " by " + n + ", itself", x.slipped(n - 1, n), 1 << n - 1);
            Due.due("of " + n + " by 9", x.slipped(0, 9), 1 << 9 % n);
        }
    }

    private static void slippedOff() {
        RungBackwards x = Towers.ladder();
        Due.due("all that hang on it", x.slipped(0, 9), 512);
        Due.due("and on that", x.slipped(3, 2), 1023 - 31);
        x.give(9, 3, 0);
        Due.due("it hadn't BEEN", x.slipped(0, 9), 0);
        x.give(9, 3, 1);
        x.give(0, 3, 0);
        Due.due("it doesn't STAND", x.slipped(0, 9), 0);
        x.give(0, 3, 1);
        x.tell(2, 255);
        x.tell(0, 3);
        Due.due("whether it MAY is nothing", x.slipped(0, 8), 768);
    }

    private static void whose() {
        Edge.bounds("whose(v)", Towers::rich, (x, v) -> x.whose(v), 0, 99);
        // SLIPS 13, 42, 10, 11
        RungBackwards x = Due.steeple();
        int[][] due = {{0, 15}, {9, 15}, {10, 15}, {11, 11}, {12, 3}, {13, 3}, {14, 2}, {41, 2}, {42, 2}, {43, 0}, {99, 0}};
        for (int[] d : due) {
            Due.due("of " + d[0] + " at least", x.whose(d[0]), d[1]);
        }
        x.tell(2, 8);
        Due.due("the DEAF one, CRACKED, of 50", x.whose(50), 8);
        Due.due("of 51", x.whose(51), 0);
        Due.due("nobody there", new RungBackwards().whose(0), 0);
        Due.due("six", Towers.sixRingers().whose(10), 63);
    }

    private static void crew() {
        Edge.bounds("crew(n)", Towers::sixRingers, (x, v) -> x.crew(v), 0, 6);
        Edge.each("crew of six alike, the least as bits", Towers::sixRingers, (x, v) -> x.crew(v), 0, 1, 3, 7, 15, 31, 63);
        RungBackwards x = new RungBackwards();
        // SLIPS 57, 10, 30, 10, 5, 19
        int[][] ringers = {{1, 9}, {0, 0}, {1, 0}, {2, 9}, {4, 0}, {0, 9}};
        for (int[] r : ringers) {
            x.ringer(r[0], r[1], 0);
        }
        Edge.each("crew of six", () -> x, (y, v) -> y.crew(v), 0, 16, 18, 26, 58, 62, 63);
        RungBackwards deaf = Due.steeple();
        deaf.tell(2, 8);
        Edge.each("the DEAF one, CRACKED, comes last", () -> deaf, (y, v) -> y.crew(v), 0, 4, 5, 7, 15);
    }

    private static void noCrew() {
        for (int n = 0; n <= 6; n++) {
            RungBackwards x = Towers.ringers(n);
            Due.due("all of " + n, x.crew(n), (1 << n) - 1);
            for (int more = n + 1; more <= 6; more++) {
                Due.due(more + " of " + n, x.crew(more), -1);
            }
        }
    }

    private static RungBackwards fallenLadder() {
        RungBackwards x = Towers.ladder();
        for (int i = 0; i < 10; i++) {
            x.give(i, 3, 0);
        }
        x.tell(0, 3);
        return x;
    }

    private static void putBack() {
        Edge.each("nothing has BEEN", ComesEdges::fallenLadder, (x, v) -> x.putBack(v), 1, 2, 3, 4, 5, 6, 7, 8, 9, 10);
        RungBackwards x = Towers.ladder();
        x.give(0, 3, 0);
        for (int i = 0; i < 10; i++) {
            Due.due("the first hasn't BEEN, " + i, x.putBack(i), 1);
        }
        x.give(9, 3, 0);
        Due.due("the last hasn't, too", x.putBack(9), 2);
        Due.due("nor for one below it", x.putBack(8), 1);
    }

    private static void putBackNothing() {
        Edge.each("all STAND", Towers::ladder, (x, v) -> x.putBack(v), 0, 0, 0, 0, 0, 0, 0, 0, 0, 0);
        Edge.each("all STAND, none is OPEN", ComesEdges::shutLadder, (x, v) -> x.putBack(v), 0, 0, 0, 0, 0, 0, 0, 0, 0, 0);
    }

    private static void putBackShut() {
        RungBackwards x = fallenLadder();
        x.tell(2, 128);
        Edge.each("7 isn't OPEN", () -> x, (y, v) -> y.putBack(v), 1, 2, 3, 4, 5, 6, 7, -1, -1, -1);
        x.tell(2, 1);
        Edge.each("0 and 8 aren't OPEN", () -> x, (y, v) -> y.putBack(v), -1, -1, -1, -1, -1, -1, -1, -1, -1, -1);
        x.tell(2, 2);
        Edge.each("1 and 9 aren't OPEN", () -> x, (y, v) -> y.putBack(v), 1, -1, -1, -1, -1, -1, -1, -1, -1, -1);
        Due.due("NONE isn't refused", x.status(12), 0);
    }

    private static void kinds() {
        RungBackwards x = new RungBackwards();
        x.ringer(4, 9, 7);
        // As RINGER 19, LEARNER 57, OLD 10, CURATE 29, MASTER 5, DEAF 19.
        int[][] due = {{19, 33}, {57, 2}, {10, 4}, {29, 8}, {5, 16}, {18, 0}, {20, 0}, {50, 0}, {0, 0}, {99, 0}};
        for (int[] d : due) {
            Due.due("by " + d[0], x.kinds(0, d[0]), d[1]);
        }
        x.tell(2, 128);
        Due.due("as DEAF, CRACKED", x.kinds(0, 50), 32);
        Due.due("not as DEAF", x.kinds(0, 19), 1);
        x.ringer(0, 0, 7);
        Due.due("RINGER and OLD alike", x.kinds(1, 10), 5);
        x.tell(2, 127);
        Due.due("and DEAF", x.kinds(1, 10), 37);
        Due.due("CURATE", x.kinds(1, 15), 8);
    }
}
