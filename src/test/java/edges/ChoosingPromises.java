/** Promises 37 to 52: what is asked, the second half. */
final class ChoosingPromises {
    private static final String NOT_REFUSED = "(NONE isn't refused.)";

    private ChoosingPromises() {
    }

    static void all() {
        endsAndCommon();
        weatherAndBell();
        pairUnderPillar();
        waysOldestFree();
        onceSoonWeather();
        chainAloneKind();
    }

    // ---- 37, 38

    private static void endsAndCommon() {
        String ends = "Promise 37: ends";
        Edge.of(ends, "THINGS (bits) on which nothing hangs (what 0), that hang on nothing (1).", () -> {
            Edge.each("of nothing", RungBackwards::new, (x, v) -> x.ends(v), 0, 0);
            Edge.each("of one", Towers::oneThing, (x, v) -> x.ends(v), 1, 1);
            Edge.each("of singles", Towers::tenThings, (x, v) -> x.ends(v), 1023, 1023);
            Edge.each("of a ladder", Towers::ladder, (x, v) -> x.ends(v), 512, 1);
            Edge.each("of a silent one", Towers::silent, (x, v) -> x.ends(v), 48, 5);
        });
        Edge.of(ends, "BAD.", () -> AskingPromises.whatTold("ends(what)", (x, v) -> x.ends(v), 1));
        String common = "Promise 38: common";
        Edge.of(common, "THINGS (bits) both hang on, by DOWN.", () -> {
            Edge.each("with the last of a ladder", Towers::ladder, (x, v) -> x.common(v, 9), 0, 1, 3, 7, 15, 31, 63, 127,
                255, 511);
            Edge.each("with the first of a ladder", Towers::ladder, (x, v) -> x.common(0, v), 0, 0, 0, 0, 0, 0, 0, 0, 0, 0);
            Edge.each("with 5", Due::steeple, (x, v) -> x.common(5, v), 0, 1, 0, 7, 4, 15);
            Edge.each("with 4", Due::steeple, (x, v) -> x.common(v, 4), 0, 0, 0, 4, 4, 4);
        });
        Edge.of(common, "BAD.", () -> {
            AskingPromises.thingTold("common(v, 0)", (x, v) -> x.common(v, 0));
            AskingPromises.thingTold("common(0, v)", (x, v) -> x.common(0, v));
            AskingPromises.thingTold("common(v, v)", (x, v) -> x.common(v, v));
        });
    }

    // ---- 39, 40

    private static void weatherAndBell() {
        String weather = "Promise 39: weatherFor";
        Edge.of(weather, "The WEATHER (0 to 3) in which most THINGS MAY be rung back, CRACKS as they are (what 0), how many "
            + "(1), of several the least.", ChoosingPromises::weatherFor);
        Edge.of(weather, "BAD.", () -> AskingPromises.whatTold("weatherFor(what)", (x, v) -> x.weatherFor(v), 1));
        String bell = "Promise 40: bell";
        Edge.of(bell, "The bell (0 to 7) whose crack shuts most THINGS that are OPEN (what 0), how many (1), of several the "
            + "least.", ChoosingPromises::bell);
        Edge.of(bell, "BAD.", () -> AskingPromises.whatTold("bell(what)", (x, v) -> x.bell(v), 1));
    }

    private static void weatherFor() {
        Edge.each("of nothing", RungBackwards::new, (x, v) -> x.weatherFor(v), 0, 0);
        Edge.each("nothing has BEEN", Towers::silent, (x, v) -> x.weatherFor(v), 0, 0);
        for (int weather = 0; weather <= 3; weather++) {
            RungBackwards x = new RungBackwards();
            x.tell(0, 3 - weather);
            x.thing(0, weather);
            Edge.each("one in " + weather, () -> x, (y, v) -> y.weatherFor(v), weather, 1);
        }
        RungBackwards x = new RungBackwards();
        for (int i = 0; i < 8; i++) {
            x.thing(0, 3 - i % 4);
        }
        Edge.each("two in each, the least", () -> x, (y, v) -> y.weatherFor(v), 0, 2);
        x.thing(0, 3);
        Edge.each("three in the last", () -> x, (y, v) -> y.weatherFor(v), 3, 3);
        x.tell(2, 1);
        Edge.each("two of them shut, CRACKS as they are", () -> x, (y, v) -> y.weatherFor(v), 0, 2);
        x.tell(2, 0);
        x.give(4, 3, 0);
        Edge.each("one of them hasn't BEEN", () -> x, (y, v) -> y.weatherFor(v), 0, 2);
        x.tell(2, 255);
        Edge.each("all shut", () -> x, (y, v) -> y.weatherFor(v), 0, 0);
    }

    private static void bell() {
        Edge.each("of nothing", RungBackwards::new, (x, v) -> x.bell(v), 0, 0);
        Edge.each("of one", Towers::oneThing, (x, v) -> x.bell(v), 0, 1);
        Edge.each("of eight, the least", () -> Towers.things(8), (x, v) -> x.bell(v), 0, 1);
        Edge.each("of nine, the first has two", Towers::nineThings, (x, v) -> x.bell(v), 0, 2);
        RungBackwards x = Towers.tenThings();
        int[][] due = {{0, 0, 2}, {1, 1, 2}, {2, 0, 2}, {3, 2, 1}, {7, 3, 1}, {127, 7, 1}, {253, 1, 2}, {255, 0, 0}};
        for (int[] d : due) {
            x.tell(2, d[0]);
            Edge.each("CRACKED " + d[0], () -> x, (y, v) -> y.bell(v), d[1], d[2]);
        }
        x.tell(2, 0);
        for (int i = 0; i < 10; i++) {
            x.give(i, 3, 0);
        }
        Edge.each("whether they have BEEN is nothing", () -> x, (y, v) -> y.bell(v), 0, 2);
    }

    // ---- 41 to 43

    private static void pairUnderPillar() {
        String pair = "Promise 41: pair";
        Edge.of(pair, "The two THINGS that have BEEN by whose both being rung back VALUE is least (what 0: 10 times the "
            + "lesser and the other, of several the first by numbers), that VALUE (1);", ChoosingPromises::pair);
        Edge.of(pair, "NONE: fewer have.", () -> {
            Edge.each("nothing there", RungBackwards::new, (x, v) -> x.pair(v), -1, -1);
            Edge.each("one there", Towers::oneThing, (x, v) -> x.pair(v), -1, -1);
            Edge.each("two there", Towers::twoThings, (x, v) -> x.pair(v), 1, 0);
            RungBackwards x = Towers.silent();
            Edge.each("none has BEEN", () -> x, (y, v) -> y.pair(v), -1, -1);
            x.give(5, 3, 1);
            Edge.each("one has BEEN", () -> x, (y, v) -> y.pair(v), -1, -1);
            x.give(1, 3, 1);
            Edge.each("two have BEEN", () -> x, (y, v) -> y.pair(v), 15, 0);
        });
        Edge.of(pair, "BAD.", () -> AskingPromises.whatTold("pair(what)", (x, v) -> x.pair(v), 1));
        Edge.of(pair, NOT_REFUSED, () -> {
            Edge.told("one", Towers::oneThing, x -> x.pair(0), -1);
            Edge.told("one", Towers::oneThing, x -> x.pair(1), -1);
        });
        String under = "Promise 42: under";
        Edge.of(under, "The least set of THINGS that have BEEN (fewest, then least bits) by whose being rung back VALUE is v "
            + "(0 to 999) at most.", ChoosingPromises::under);
        Edge.of(under, "BAD.", () -> {
            Edge.bounds("under(v)", Towers::rich, (x, v) -> x.under(v), 0, 999);
            Edge.bounds("under(v) of nothing", RungBackwards::new, (x, v) -> x.under(v), 0, 999);
        });
        String pillar = "Promise 43: pillar";
        Edge.of(pillar, "Of those that STAND the one by whose being rung back VALUE falls most, of several the first; NONE: "
            + "none does.", ChoosingPromises::pillar);
        Edge.of(pillar, NOT_REFUSED, () -> {
            Edge.told("nothing there", RungBackwards::new, x -> x.pillar(), -1);
            Edge.told("none STANDS", Towers::silent, x -> x.pillar(), -1);
        });
    }

    private static void pair() {
        Edge.each("all alike, the first", Towers::tenThings, (x, v) -> x.pair(v), 1, 8);
        RungBackwards x = Towers.tenThings();
        x.give(9, 0, 2);
        Edge.each("0 and 9", () -> x, (y, v) -> y.pair(v), 9, 8);
        x.give(8, 0, 2);
        Edge.each("the last two", () -> x, (y, v) -> y.pair(v), 89, 8);
        x.give(3, 0, 2);
        Edge.each("of several the first by numbers", () -> x, (y, v) -> y.pair(v), 38, 9);
        x.give(8, 3, 0);
        Edge.each("not one that hasn't BEEN", () -> x, (y, v) -> y.pair(v), 39, 7);
        Edge.each("the steeple", Due::steeple, (y, v) -> y.pair(v), 2, 0);
        Edge.each("a ladder", Towers::ladder, (y, v) -> y.pair(v), 1, 0);
    }

    private static void under() {
        RungBackwards x = new RungBackwards();
        int[] worths = {1, 5, 5, 9, 99, 99, 99, 99, 99, 99};
        for (int worth : worths) {
            x.thing(worth, 0);
        }
        // 614 in all.
        int[][] due = {{999, 0}, {614, 0}, {613, 1}, {612, 2}, {609, 2}, {608, 8}, {605, 8}, {604, 16}, {515, 16}, {514, 17},
            {513, 18}, {511, 18}, {510, 18}, {509, 24}, {0, 1023}, {1, 1022}, {4, 1022}, {5, 1019}};
        for (int[] d : due) {
            Due.due("under " + d[0], x.under(d[0]), d[1]);
        }
        Due.due("nothing has BEEN", Towers.silent().under(0), 0);
        Due.due("nothing there", new RungBackwards().under(0), 0);
        Due.due("a ladder", Towers.ladder().under(0), 1);
        Due.due("a ladder, by its first still", Towers.ladder().under(1), 1);
        Due.due("all of it", Towers.ladder().under(10), 0);
        Due.due("one less", Towers.ladder().under(9), 1);
        RungBackwards y = Towers.ladder();
        y.give(0, 3, 0);
        Due.due("none STANDS", y.under(0), 0);
    }

    private static void pillar() {
        Edge.told("all alike, the first", Towers::tenThings, x -> x.pillar(), 0);
        Edge.told("a ladder", Towers::ladder, x -> x.pillar(), 0);
        Edge.told("the steeple", Due::steeple, x -> x.pillar(), 0);
        RungBackwards x = Towers.tenThings();
        x.give(9, 0, 2);
        Due.due("the last", x.pillar(), 9);
        x.give(5, 0, 2);
        Due.due("of two the first", x.pillar(), 5);
        x.give(5, 3, 0);
        Due.due("not one that hasn't BEEN", x.pillar(), 9);
        RungBackwards y = Towers.things(3);
        y.hang(1, 0, 1);
        y.give(0, 3, 0);
        y.give(2, 0, 0);
        Due.due("one of no WORTH STANDS, the others don't", y.pillar(), 2);
        y.give(2, 3, 0);
        Due.due("none STANDS, though one has BEEN", y.pillar(), -1);
    }

    // ---- 44 to 46

    private static void waysOldestFree() {
        String ways = "Promise 44: ways";
        Edge.of(ways, "By how many sets of THINGS that had BEEN (of all sets there are) just told ones would STAND.", () -> {
            Edge.told("nothing there", RungBackwards::new, x -> x.ways(0), 1);
            Edge.told("singles, none", Towers::tenThings, x -> x.ways(0), 1);
            Edge.told("singles, all", Towers::tenThings, x -> x.ways(1023), 1);
            Edge.told("a ladder, none", Towers::ladder, x -> x.ways(0), 512);
            Edge.told("a ladder, the first", Towers::ladder, x -> x.ways(1), 256);
            Edge.told("a ladder, nine", Towers::ladder, x -> x.ways(511), 1);
            Edge.told("a ladder, all", Towers::ladder, x -> x.ways(1023), 1);
            Edge.told("a ladder, the second alone", Towers::ladder, x -> x.ways(2), 0);
            int[][] due = {{0, 16}, {63, 1}, {1, 8}, {2, 0}, {5, 4}, {4, 8}, {47, 1}, {31, 1}};
            for (int[] d : due) {
                Edge.told("the steeple " + d[0], Due::steeple, x -> x.ways(d[0]), d[1]);
                Edge.told("what has BEEN is nothing " + d[0], Towers::silent, x -> x.ways(d[0]), d[1]);
            }
        });
        Edge.of(ways, "BAD: also THINGS that aren't there.", () -> AskingPromises.thingsTold("ways", (x, v) -> x.ways(v)));
        String oldest = "Promise 45: oldest";
        Edge.of(oldest, "Of those that have BEEN the one of greatest AGE (what 0), least (1), of several the first; NONE.",
            ChoosingPromises::oldest);
        Edge.of(oldest, "BAD.", () -> AskingPromises.whatTold("oldest(what)", (x, v) -> x.oldest(v), 1));
        Edge.of(oldest, NOT_REFUSED, () -> {
            for (int what = 0; what <= 1; what++) {
                int told = what;
                Edge.told("nothing there", RungBackwards::new, x -> x.oldest(told), -1);
                Edge.told("nothing has BEEN", Towers::silent, x -> x.oldest(told), -1);
            }
        });
        String free = "Promise 46: free";
        Edge.of(free, "A THING hangs on nothing: on what it hung (bits).", () -> {
            Edge.each("a thicket", Towers::thicket, (x, v) -> x.free(v), 0, 1, 3, 7, 15, 31, 63, 127, 255, 511);
            RungBackwards x = Towers.thicket();
            Due.due("the last", x.free(9), 511);
            Due.due("it hangs on nothing", x.thingOf(9, 4), 0);
            Due.due("again", x.free(9), 0);
            Due.due("another hangs as it did", x.thingOf(8, 4), 255);
            Due.due("what hangs on it does still", Due.steeple().free(0), 0);
        });
        Edge.of(free, "BAD.", () -> AskingPromises.thingTold("free", (x, v) -> x.free(v)));
    }

    private static void oldest() {
        Edge.each("all alike, the first", Towers::tenThings, (x, v) -> x.oldest(v), 0, 0);
        RungBackwards x = Towers.tenThings();
        x.give(9, 2, 1);
        Edge.each("the last is oldest", () -> x, (y, v) -> y.oldest(v), 9, 0);
        x.give(0, 2, 99);
        Edge.each("the first is, of two the first is youngest", () -> x, (y, v) -> y.oldest(v), 0, 1);
        x.give(0, 3, 0);
        x.give(1, 3, 0);
        Edge.each("not those that haven't BEEN", () -> x, (y, v) -> y.oldest(v), 9, 2);
        x.give(4, 2, 1);
        Edge.each("of two the first", () -> x, (y, v) -> y.oldest(v), 4, 2);
        for (int i = 2; i < 9; i++) {
            x.give(i, 3, 0);
        }
        Edge.each("the only one", () -> x, (y, v) -> y.oldest(v), 9, 9);
        RungBackwards y = Towers.ladder();
        y.give(0, 3, 0);
        Edge.each("whether it STANDS is nothing", () -> y, (z, v) -> z.oldest(v), 1, 1);
    }

    // ---- 47 to 49

    private static void onceSoonWeather() {
        String once = "Promise 47: once";
        Edge.of(once, "How likely just one of told RINGERS slips: SLIP of each, of 100, times WELL of the others of them, each "
            + "cut, together (of 1,000,000).", ChoosingPromises::once);
        Edge.of(once, "BAD: also one who isn't there.", () -> AskingPromises.ringersTold("once", (x, v) -> x.once(v)));
        String soon = "Promise 48: soon";
        Edge.of(soon, "ORDER of WEATHERS for one THING alone; NONE.", () -> {
            Edge.each("from 0", Due::steeple, (x, v) -> x.soon(v), 1, 2, 1, 3, -1, 4);
            RungBackwards x = Due.steeple();
            x.tell(0, 3);
            Edge.each("from 3", () -> x, (y, v) -> y.soon(v), 2, 3, 2, 4, -1, 1);
            x.tell(2, 9);
            Edge.each("0 and 3 are shut", () -> x, (y, v) -> y.soon(v), -1, 3, 2, -1, -1, 1);
        });
        Edge.of(soon, "BAD.", () -> AskingPromises.thingTold("soon", (x, v) -> x.soon(v)));
        Edge.of(soon, NOT_REFUSED, () -> Edge.told("one that hasn't BEEN", Towers::rich, x -> x.soon(4), -1));
        String inWeather = "Promise 49: inWeather";
        Edge.of(inWeather, "THINGS (bits) RUNG in a WEATHER (0 to 3).", () -> {
            Edge.each("the steeple", Due::steeple, (x, v) -> x.inWeather(v), 21, 2, 8, 32);
            Edge.each("singles", Towers::tenThings, (x, v) -> x.inWeather(v), 1023, 0, 0, 0);
            Edge.each("nothing there", RungBackwards::new, (x, v) -> x.inWeather(v), 0, 0, 0, 0);
            RungBackwards x = Towers.tenThings();
            x.give(9, 3, 0);
            x.tell(0, 3);
            x.ring(9);
            Edge.each("one rung in 3", () -> x, (y, v) -> y.inWeather(v), 511, 0, 0, 512);
        });
        Edge.of(inWeather, "BAD.", () -> {
            Edge.bounds("inWeather(v)", Towers::rich, (x, v) -> x.inWeather(v), 0, 3);
            Edge.bounds("inWeather(v) of nothing", RungBackwards::new, (x, v) -> x.inWeather(v), 0, 3);
        });
    }

    private static void once() {
        Due.due("nobody there", new RungBackwards().once(0), 0);
        // SLIPS 13, 42, 10, 11
        int[][] due = {{0, 0}, {1, 130000}, {2, 420000}, {3, 440800}, {4, 100000}, {8, 110000}, {12, 188000}, {15, 447944}};
        for (int[] d : due) {
            Due.due("once " + d[0], Due.steeple().once(d[0]), d[1]);
        }
        RungBackwards x = new RungBackwards();
        int[][] ringers = {{3, 2}, {1, 9}, {3, 0}, {1, 0}, {3, 2}, {0, 2}};
        for (int[] r : ringers) {
            x.ringer(r[0], r[1], 0);
        }
        // SLIPS 18, 57, 15, 30, 18, 12; together ahead of the cut it would be 379382.
        Due.due("each cut", x.once(63), 379379);
        RungBackwards deaf = Due.steeple();
        deaf.tell(2, 8);
        Due.due("a DEAF one, CRACKED", deaf.once(8), 500000);
        Due.due("he or another", deaf.once(9), 500000);
    }

    // ---- 50 to 52

    private static void chainAloneKind() {
        String chain = "Promise 50: chain";
        Edge.of(chain, "A THING and those (bits) on the longest way of hanging down from it, of several the lesser number "
            + "each time.", ChoosingPromises::chain);
        Edge.of(chain, "BAD.", () -> AskingPromises.thingTold("chain", (x, v) -> x.chain(v)));
        String alone = "Promise 51: alone";
        Edge.of(alone, "Whether nothing but it (if that) is OFF by a THING: 1, 0.", () -> {
            Edge.each("singles", Towers::tenThings, (x, v) -> x.alone(v), 1, 1, 1, 1, 1, 1, 1, 1, 1, 1);
            Edge.each("a ladder", Towers::ladder, (x, v) -> x.alone(v), 0, 0, 0, 0, 0, 0, 0, 0, 0, 1);
            Edge.each("the steeple", Due::steeple, (x, v) -> x.alone(v), 0, 0, 0, 0, 1, 1);
            Edge.each("nothing is OFF", Towers::silent, (x, v) -> x.alone(v), 1, 1, 1, 1, 1, 1);
            RungBackwards x = Towers.ladder();
            x.give(5, 3, 0);
            Edge.each("what hangs on it doesn't STAND", () -> x, (y, v) -> y.alone(v), 0, 0, 0, 0, 1, 1, 1, 1, 1, 1);
        });
        Edge.of(alone, "BAD.", () -> AskingPromises.thingTold("alone", (x, v) -> x.alone(v)));
        String ofKind = "Promise 52: ofKind";
        Edge.of(ofKind, "How many RINGERS are of just a KIND.", () -> {
            Edge.each("nobody", RungBackwards::new, (x, v) -> x.ofKind(v), 0, 0, 0, 0, 0, 0);
            Edge.each("six", Towers::sixRingers, (x, v) -> x.ofKind(v), 6, 0, 0, 0, 0, 0);
            Edge.each("the steeple", Due::steeple, (x, v) -> x.ofKind(v), 1, 1, 1, 0, 0, 1);
            RungBackwards x = new RungBackwards();
            for (int kind : new int[] {3, 4, 5, 5, 4, 5}) {
                x.ringer(kind, 0, 0);
            }
            Edge.each("none above counts", () -> x, (y, v) -> y.ofKind(v), 0, 0, 0, 1, 2, 3);
        });
        Edge.of(ofKind, "BAD.", () -> {
            Edge.bounds("ofKind(v)", Towers::rich, (x, v) -> x.ofKind(v), 0, 5);
            Edge.bounds("ofKind(v) of nobody", RungBackwards::new, (x, v) -> x.ofKind(v), 0, 5);
        });
    }

    private static void chain() {
        Edge.each("singles", Towers::tenThings, (x, v) -> x.chain(v), 1, 2, 4, 8, 16, 32, 64, 128, 256, 512);
        Edge.each("a ladder", Towers::ladder, (x, v) -> x.chain(v), 1, 3, 7, 15, 31, 63, 127, 255, 511, 1023);
        Edge.each("a thicket", Towers::thicket, (x, v) -> x.chain(v), 1, 3, 7, 15, 31, 63, 127, 255, 511, 1023);
        Edge.each("whether they have BEEN is nothing", Towers::silent, (x, v) -> x.chain(v), 1, 3, 4, 11, 20, 43);
        // 2 on 0 and 1: the lesser. 5 on 2 and 4, 4 on 1: both ways are as long, the lesser is 2, then 0.
        RungBackwards x = Towers.things(7);
        int[][] hangs = {{2, 0}, {2, 1}, {4, 1}, {5, 2}, {5, 4}, {6, 0}, {6, 4}};
        for (int[] h : hangs) {
            x.hang(h[0], h[1], 1);
        }
        Edge.each("the lesser each time", () -> x, (y, v) -> y.chain(v), 1, 2, 5, 8, 18, 37, 82);
    }
}
