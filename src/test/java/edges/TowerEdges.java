/** Terms, THE TOWER and RINGERS: what there can be, and how much of it. */
final class TowerEdges {
    private static final String TERMS = "Terms";

    private TowerEdges() {
    }

    static void all() {
        Edge.of(TERMS, "THE TOWER THINGS have numbers, 0 on, 10 at most:", TowerEdges::thingsAreTen);
        Edge.of(TERMS, "WORTH (0 to 99),", TowerEdges::worth);
        Edge.of(TERMS, "RUNG in a WEATHER (0 to 3),", TowerEdges::rungIn);
        Edge.of(TERMS, "what it hangs on (THINGS of lesser numbers, bits),", TowerEdges::hangsOnLesser);
        Edge.of(TERMS, "whether it has BEEN (yes at first),", TowerEdges::beenAtFirst);
        Edge.of(TERMS, "AGE (0 to 99; 0 at first).", TowerEdges::age);
        Edge.of(TERMS, "WEATHER now (0 to 3; 0 at first),", TowerEdges::weatherNow);
        Edge.of(TERMS, "YEAR (0 to 999; 0 at first),", TowerEdges::year);
        Edge.of(TERMS, "CRACKED (bells, bits 0 to 7; none at first).", TowerEdges::cracked);
        Edge.of(TERMS, "RINGERS have numbers, 0 on, 6 at most,", TowerEdges::ringersAreSix);
        Edge.of(TERMS, "each of a KIND: 0 RINGER; 1 LEARNER, 2 OLD, 5 DEAF, each under RINGER; 3 CURATE, under LEARNER; "
            + "4 MASTER, under OLD;", TowerEdges::kinds);
        Edge.of(TERMS, "a (0 to 9),", TowerEdges::aOfRingers);
        Edge.of(TERMS, "BELL (0 to 7).", TowerEdges::bellOfRingers);
    }

    private static void thingsAreTen() {
        RungBackwards x = new RungBackwards();
        for (int i = 0; i < 10; i++) {
            Due.due("how many ahead of " + i, x.status(0), i);
            Due.due("the number itself is none yet", x.thingOf(i, 3), Due.BAD);
            Due.due("thing " + i, x.thing(0, 0), i);
            Due.due("it is one then", x.thingOf(i, 3), 1);
        }
        Due.due("ten", x.status(0), 10);
        Due.due("ahead of the first", x.thingOf(-1, 3), Due.BAD);
        Due.due("behind the last", x.thingOf(10, 3), Due.BAD);
        Edge.taken("a 10th", Towers::nineThings, (y, v) -> y.thing(v, v), 0);
        Due.refused("an 11th", Towers::tenThings, y -> y.thing(0, 0), Due.FULL);
        Edge.reads(Towers::nineThings, "thing 0 0", 1);
        Edge.fault(Towers::tenThings, "thing 0 0", 0);
    }

    private static void worth() {
        Edge.bounds("thing(v, 0)", Towers::rich, (x, v) -> x.thing(v, 0), 0, 99);
        Edge.bounds("give(1, 0, v)", Towers::rich, (x, v) -> x.give(1, 0, v), 0, 99);
        Edge.numbers(Towers::oneThing, "thing ", " 0", 0, 99);
        RungBackwards x = Towers.noThings();
        for (int worth : new int[] {0, 99}) {
            Due.due("WORTH of one made", x.thingOf(x.thing(worth, 0), 0), worth);
            Due.due("one is read", Due.read(x, "thing " + worth + " 0"), 1);
            Due.due("WORTH of one read", x.thingOf(x.status(0) - 1, 0), worth);
            x.give(0, 0, worth);
            Due.due("WORTH of one given", x.thingOf(0, 0), worth);
        }
    }

    private static void rungIn() {
        Edge.bounds("thing(0, v)", Towers::rich, (x, v) -> x.thing(0, v), 0, 3);
        Edge.bounds("give(1, 1, v)", Towers::rich, (x, v) -> x.give(1, 1, v), 0, 3);
        Edge.numbers(Towers::oneThing, "thing 0 ", "", 0, 3);
        RungBackwards x = Towers.noThings();
        for (int weather : new int[] {0, 3}) {
            Due.due("WEATHER of one made", x.thingOf(x.thing(0, weather), 1), weather);
            Due.due("one is read", Due.read(x, "thing 0 " + weather), 1);
            Due.due("WEATHER of one read", x.thingOf(x.status(0) - 1, 1), weather);
            x.give(0, 1, weather);
            Due.due("WEATHER of one given", x.thingOf(0, 1), weather);
        }
    }

    private static void hangsOnLesser() {
        Edge.bad("hang(0, v, 1)", Towers::rich, (x, v) -> x.hang(0, v, 1), -1, 0, 1);
        Edge.bounds("hang(1, v, 1)", Towers::rich, (x, v) -> x.hang(1, v, 1), 0, 0);
        Edge.bounds("hang(5, v, 1)", Towers::rich, (x, v) -> x.hang(5, v, 1), 0, 4);
        Edge.bounds("hang(9, v, 1)", Towers::tenThings, (x, v) -> x.hang(9, v, 1), 0, 8);
        Edge.bounds("hang(9, v, 0)", Towers::ladder, (x, v) -> x.hang(9, v, 0), 0, 8);
        RungBackwards x = Towers.tenThings();
        int bits = 0;
        for (int lesser = 0; lesser < 9; lesser++) {
            x.hang(9, lesser, 1);
            bits |= 1 << lesser;
            Due.due("bits, up to " + lesser, x.thingOf(9, 4), bits);
        }
        Due.due("what it hangs on is left", x.thingOf(8, 4), 0);
    }

    private static void beenAtFirst() {
        RungBackwards x = new RungBackwards();
        x.thing(0, 3);
        Due.due("one made", x.thingOf(0, 3), 1);
        Due.read(x, "thing 5 0");
        Due.due("one read", x.thingOf(1, 3), 1);
        Due.due("both", x.all(2), 3);
    }

    private static void age() {
        Edge.bounds("give(1, 2, v)", Towers::rich, (x, v) -> x.give(1, 2, v), 0, 99);
        RungBackwards x = new RungBackwards();
        x.thing(0, 0);
        Due.due("one made", x.thingOf(0, 2), 0);
        Due.read(x, "thing 5 0");
        Due.due("one read", x.thingOf(1, 2), 0);
        x.give(0, 2, 99);
        Due.due("most", x.thingOf(0, 2), 99);
        x.give(0, 2, 0);
        Due.due("least", x.thingOf(0, 2), 0);
    }

    private static void weatherNow() {
        Due.due("at first", new RungBackwards().status(2), 0);
        Edge.bounds("tell(0, v)", Towers::rich, (x, v) -> x.tell(0, v), 0, 3);
        Edge.numbers(Towers::oneThing, "weather ", "", 0, 3);
        RungBackwards x = new RungBackwards();
        for (int weather : new int[] {3, 0}) {
            x.tell(0, weather);
            Due.due("it is", x.status(2), weather);
        }
    }

    private static void year() {
        Due.due("at first", new RungBackwards().status(3), 0);
        Edge.bounds("tell(1, v)", Towers::rich, (x, v) -> x.tell(1, v), 0, 999);
        RungBackwards x = new RungBackwards();
        for (int year : new int[] {999, 0}) {
            x.tell(1, year);
            Due.due("it is", x.status(3), year);
        }
    }

    private static void cracked() {
        Due.due("at first", new RungBackwards().status(4), 0);
        Edge.bounds("tell(2, v)", Towers::rich, (x, v) -> x.tell(2, v), 0, 255);
        RungBackwards x = Towers.things(8);
        for (int bell = 0; bell <= 7; bell++) {
            x.tell(2, 1 << bell);
            Due.due("CRACKED is " + bell, x.status(4), 1 << bell);
            for (int i = 0; i < 8; i++) {
                Due.due("bit " + bell + " is bell " + bell + ", thing " + i, x.thingOf(i, 6), i == bell ? 0 : 1);
            }
        }
        x.tell(2, 255);
        Due.due("all", x.all(4) + x.all(3), 0);
        x.tell(2, 0);
        Due.due("none", x.all(3), 255);
    }

    private static void ringersAreSix() {
        RungBackwards x = new RungBackwards();
        for (int i = 0; i < 6; i++) {
            Due.due("how many ahead of " + i, x.status(1), i);
            Due.due("the number itself is none yet", x.ringerOf(i, 2), Due.BAD);
            Due.due("ringer " + i, x.ringer(0, 0, 7), i);
            Due.due("he is one then", x.ringerOf(i, 2), 7);
        }
        Due.due("six", x.status(1), 6);
        Due.due("ahead of the first", x.ringerOf(-1, 2), Due.BAD);
        Due.due("behind the last", x.ringerOf(6, 2), Due.BAD);
        Edge.taken("a 6th", () -> Towers.ringers(5), (y, v) -> y.ringer(v, v, v), 0);
        Due.refused("a 7th", Towers::sixRingers, y -> y.ringer(0, 0, 0), Due.FULL);
        Edge.reads(() -> Towers.ringers(5), "ringer 0 0 0", 1);
        Edge.fault(Towers::sixRingers, "ringer 0 0 0", 0);
    }

    private static void kinds() {
        Edge.bounds("ringer(v, 0, 0)", Towers::rich, (x, v) -> x.ringer(v, 0, 0), 0, 5);
        Edge.numbers(Towers::oneThing, "ringer ", " 0 0", 0, 5);
        // RINGER, LEARNER, OLD, CURATE, MASTER, DEAF: the kinds that each is or stands under, as bits.
        int[] under = {1, 3, 5, 11, 21, 33};
        for (int kind = 0; kind <= 5; kind++) {
            RungBackwards x = new RungBackwards();
            x.ringer(kind, 0, 0);
            x.show(0, 0);
            Due.due("KIND", x.ringerOf(0, 0), kind);
            for (int other = 0; other <= 5; other++) {
                boolean isOne = (under[kind] >> other & 1) == 1;
                Due.due(kind + " is one of " + other, x.says(0, other) == Due.OTHER ? 0 : 1, isOne ? 1 : 0);
            }
        }
    }

    private static void aOfRingers() {
        Edge.bounds("ringer(0, v, 0)", Towers::rich, (x, v) -> x.ringer(0, v, 0), 0, 9);
        Edge.numbers(Towers::oneThing, "ringer 0 ", " 0", 0, 9);
        RungBackwards x = new RungBackwards();
        for (int a : new int[] {0, 9}) {
            Due.due("a", x.ringerOf(x.ringer(0, a, 0), 1), a);
        }
    }

    private static void bellOfRingers() {
        Edge.bounds("ringer(0, 0, v)", Towers::rich, (x, v) -> x.ringer(0, 0, v), 0, 7);
        Edge.numbers(Towers::oneThing, "ringer 0 0 ", "", 0, 7);
        RungBackwards x = new RungBackwards();
        for (int bell : new int[] {0, 7}) {
            Due.due("BELL", x.ringerOf(x.ringer(0, 0, bell), 2), bell);
        }
    }
}
