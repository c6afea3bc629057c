/** Promises 19 to 36: what is asked of what there is. */
final class AskingPromises {
    private static final String NOT_REFUSED = "(NONE isn't refused.)";

    private AskingPromises() {
    }

    static void all() {
        wellAndAll();
        hanging();
        sets();
        ringers();
        turns();
        worstAndBest();
    }

    // ---- bounds that many calls have

    /** A THING is told: one of those that are there. */
    static void thingTold(String call, Edge.Asking asking) {
        Edge.bounds(call + ", of 6", Towers::rich, asking, 0, 5);
        Edge.bounds(call + ", of 1", Towers::oneThing, asking, 0, 0);
        Edge.bounds(call + ", of 10", Towers::tenThings, asking, 0, 9);
        Edge.bad(call + ", of none", RungBackwards::new, asking, -1, 0, 1);
    }

    /** THINGS are told as bits: none that isn't there. */
    static void thingsTold(String call, Edge.Asking asking) {
        Edge.bounds(call + ", of 6", Towers::rich, asking, 0, 63);
        Edge.bounds(call + ", of 1", Towers::oneThing, asking, 0, 1);
        Edge.bounds(call + ", of 10", Towers::tenThings, asking, 0, 1023);
        Edge.bounds(call + ", of none", RungBackwards::new, asking, 0, 0);
        Edge.bad(call + ", one isn't there", Towers::rich, asking, 65, 127, 1 << 30, Integer.MIN_VALUE + 1);
    }

    /** RINGERS are told as bits: none who isn't there. */
    static void ringersTold(String call, Edge.Asking asking) {
        Edge.bounds(call + ", of 4", Towers::rich, asking, 0, 15);
        Edge.bounds(call + ", of 6", Towers::sixRingers, asking, 0, 63);
        Edge.bounds(call + ", of none", RungBackwards::new, asking, 0, 0);
        Edge.bad(call + ", one isn't there", Towers::rich, asking, 17, 31, 1 << 30, Integer.MIN_VALUE + 1);
    }

    static void whatTold(String call, Edge.Asking asking, int most) {
        Edge.bounds(call, Towers::rich, asking, 0, most);
        Edge.bounds(call + " of nothing", RungBackwards::new, asking, 0, most);
    }

    // ---- 19 to 23

    private static void wellAndAll() {
        String well = "Promise 19: well";
        Edge.of(well, "WELL of told RINGERS.", () ->
            // SLIPS 13, 42, 10, 11
            Edge.each("well", Due::steeple, (x, v) -> x.well(v), 1000000, 870000, 580000, 504600, 900000, 783000, 522000,
                454140, 890000, 774300, 516200, 449094, 801000, 696870, 464580, 404184));
        Edge.of(well, "BAD: also one who isn't there.", () -> ringersTold("well", (x, v) -> x.well(v)));
        String all = "Promise 20: all";
        Edge.of(all, "What STANDS (what 0; bits), VALUE (1), what has BEEN (2; bits), what MAY be rung back now (3; bits), "
            + "forwards (4; bits).", AskingPromises::all5);
        Edge.of(all, "BAD.", () -> whatTold("all(what)", (x, v) -> x.all(v), 4));
    }

    private static void all5() {
        Edge.each("of nothing", RungBackwards::new, (x, v) -> x.all(v), 0, 0, 0, 0, 0);
        Edge.each("of all ten", Towers::tenThings, (x, v) -> x.all(v), 1023, 10, 1023, 1023, 0);
        Edge.each("of the steeple", Due::steeple, (x, v) -> x.all(v), 47, 121, 47, 5, 16);
        Edge.each("of a silent one", Towers::silent, (x, v) -> x.all(v), 0, 0, 0, 0, 63);
        RungBackwards x = Towers.ladder();
        x.give(0, 3, 0);
        x.tell(2, 2);
        Edge.each("of a ladder without its first", () -> x, (y, v) -> y.all(v), 0, 0, 1022, 508, 1);
        x.tell(2, 255);
        Edge.each("all shut", () -> x, (y, v) -> y.all(v), 0, 0, 1022, 0, 0);
    }

    private static void hanging() {
        String off = "Promise 21: off";
        Edge.of(off, "OFF by a THING.", () -> {
            Edge.each("off a ladder", Towers::ladder, (x, v) -> x.off(v), 1023, 1022, 1020, 1016, 1008, 992, 960, 896, 768,
                512);
            Edge.each("off a steeple", Due::steeple, (x, v) -> x.off(v), 43, 42, 44, 40, 0, 32);
            Edge.each("off a silent one", Towers::silent, (x, v) -> x.off(v), 0, 0, 0, 0, 0, 0);
        });
        Edge.of(off, "BAD.", () -> thingTold("off", (x, v) -> x.off(v)));
        String down = "Promise 22: down";
        Edge.of(down, "DOWN.", () -> Edge.each("down", Due::steeple, (x, v) -> x.down(v), 0, 1, 0, 7, 4, 15));
        Edge.of(down, "BAD.", () -> thingTold("down", (x, v) -> x.down(v)));
        String up = "Promise 23: up";
        Edge.of(up, "UP.", () -> Edge.each("up", Due::steeple, (x, v) -> x.up(v), 42, 40, 56, 32, 0, 0));
        Edge.of(up, "BAD.", () -> thingTold("up", (x, v) -> x.up(v)));
    }

    // ---- 24 to 27

    private static void sets() {
        String to = "Promise 24: to";
        Edge.of(to, "TO a told set; NONE.", () -> {
            int[][] due = {{47, 0}, {15, 32}, {7, 8}, {5, 2}, {4, 1}, {3, 4}, {1, 6}, {0, 5}, {2, -1}, {16, -1}, {63, -1}};
            for (int[] d : due) {
                Edge.told("to " + d[0], Due::steeple, x -> x.to(d[0]), d[1]);
            }
        });
        Edge.of(to, "BAD: also THINGS that aren't there.", () -> thingsTold("to", (x, v) -> x.to(v)));
        Edge.of(to, NOT_REFUSED, () -> Edge.told("to 2", Towers::rich, x -> x.to(2), -1));
        String unsay = "Promise 25: unsay";
        Edge.of(unsay, "BACK of told THINGS.", () -> {
            int[][] due = {{0, 0}, {1, 1}, {2, 2}, {3, 1}, {4, 4}, {8, 8}, {10, 2}, {12, 4}, {16, 0}, {32, 32}, {40, 8},
                {63, 5}};
            for (int[] d : due) {
                Edge.told("unsay " + d[0], Due::steeple, x -> x.unsay(d[0]), d[1]);
            }
        });
        Edge.of(unsay, "BAD likewise.", () -> thingsTold("unsay", (x, v) -> x.unsay(v)));
        String until = "Promise 26: until";
        Edge.of(until, "ORDER of WEATHERS; NONE.", () -> {
            int[][] due = {{0, 0}, {1, 1}, {4, 1}, {5, 1}, {2, 2}, {3, 2}, {8, 3}, {32, 4}, {47, 4}, {16, -1}, {63, -1}};
            for (int[] d : due) {
                Edge.told("until " + d[0], Due::steeple, x -> x.until(d[0]), d[1]);
            }
        });
        Edge.of(until, "BAD likewise.", () -> thingsTold("until", (x, v) -> x.until(v)));
        Edge.of(until, NOT_REFUSED, () -> Edge.told("until 16", Towers::rich, x -> x.until(16), -1));
        String slipped = "Promise 27: slipped";
        Edge.of(slipped, "SLIPPED by k.", () -> {
            int[][] due = {{0, 1, 42}, {0, 4, 0}, {0, 5, 32}, {0, 6, 43}, {0, 9, 40}, {5, 1, 43}, {5, 9, 44}, {4, 9, 42}};
            for (int[] d : due) {
                Edge.told("slipped " + d[0] + " " + d[1], Due::steeple, x -> x.slipped(d[0], d[1]), d[2]);
            }
        });
        Edge.of(slipped, "BAD.", () -> {
            thingTold("slipped(v, 1)", (x, v) -> x.slipped(v, 1));
            thingTold("slipped(v, 9)", (x, v) -> x.slipped(v, 9));
            Edge.bounds("slipped(5, k)", Towers::rich, (x, v) -> x.slipped(5, v), 1, 9);
            Edge.bounds("slipped(0, k), of 1", Towers::oneThing, (x, v) -> x.slipped(0, v), 1, 9);
        });
    }

    // ---- 28, 29, 33

    private static void ringers() {
        String whose = "Promise 28: whose";
        Edge.of(whose, "WHOSE (bits).", () -> {
            int[][] due = {{0, 15}, {10, 15}, {11, 11}, {13, 3}, {14, 2}, {42, 2}, {43, 0}, {99, 0}};
            for (int[] d : due) {
                Edge.told("whose " + d[0], Due::steeple, x -> x.whose(d[0]), d[1]);
            }
        });
        Edge.of(whose, "BAD.", () -> {
            Edge.bounds("whose(v)", Towers::rich, (x, v) -> x.whose(v), 0, 99);
            Edge.bounds("whose(v) of nobody", RungBackwards::new, (x, v) -> x.whose(v), 0, 99);
        });
        String crew = "Promise 29: crew";
        Edge.of(crew, "CREW of n; NONE.", () -> {
            Edge.each("crew", Due::steeple, (x, v) -> x.crew(v), 0, 4, 12, 13, 15, -1, -1);
            Edge.each("crew of nobody", RungBackwards::new, (x, v) -> x.crew(v), 0, -1, -1, -1, -1, -1, -1);
        });
        Edge.of(crew, "BAD.", () -> {
            Edge.bounds("crew(n)", Towers::rich, (x, v) -> x.crew(v), 0, 6);
            Edge.bounds("crew(n) of nobody", RungBackwards::new, (x, v) -> x.crew(v), 0, 6);
        });
        Edge.of(crew, NOT_REFUSED, () -> {
            Edge.told("crew 5", Towers::rich, x -> x.crew(5), -1);
            Edge.told("crew 1", RungBackwards::new, x -> x.crew(1), -1);
        });
        String kinds = "Promise 33: kinds";
        Edge.of(kinds, "KINDS (bits).", () -> {
            int[][] due = {{13, 33}, {39, 2}, {10, 4}, {20, 8}, {5, 16}, {12, 0}, {14, 0}, {0, 0}, {99, 0}};
            for (int[] d : due) {
                Edge.told("kinds " + d[0], Due::steeple, x -> x.kinds(0, d[0]), d[1]);
            }
        });
        Edge.of(kinds, "BAD.", () -> {
            Edge.bounds("kinds(v, 10), of 4", Towers::rich, (x, v) -> x.kinds(v, 10), 0, 3);
            Edge.bounds("kinds(v, 0), of 6", Towers::sixRingers, (x, v) -> x.kinds(v, 0), 0, 5);
            Edge.bad("kinds(v, 10), of nobody", RungBackwards::new, (x, v) -> x.kinds(v, 10), -1, 0);
            Edge.bounds("kinds(0, v), a SLIP", Towers::rich, (x, v) -> x.kinds(0, v), 0, 99);
        });
    }

    // ---- 30 to 32

    private static void turns() {
        String putBack = "Promise 30: putBack";
        Edge.of(putBack, "PUT BACK; NONE.", () -> {
            Edge.each("putBack", Due::steeple, (x, v) -> x.putBack(v), 0, 0, 0, 0, 1, 0);
            Edge.each("of a silent one", Towers::silent, (x, v) -> x.putBack(v), 1, 2, 1, 4, 2, 5);
            RungBackwards x = Towers.silent();
            x.tell(2, 4);
            Edge.each("2 isn't OPEN", () -> x, (y, v) -> y.putBack(v), 1, 2, -1, -1, -1, -1);
        });
        Edge.of(putBack, "BAD.", () -> thingTold("putBack", (x, v) -> x.putBack(v)));
        Edge.of(putBack, NOT_REFUSED, () -> Edge.told("putBack", AskingPromises::silentAndShut, x -> x.putBack(5), -1));
        String parishes = "Promise 31: parishes";
        Edge.of(parishes, "PARISHES: VALUE (what 0), what first (1; NONE).", () -> {
            int[][] due = {{121, -1}, {7, 0}, {121, 0}};
            for (int n = 0; n < due.length; n++) {
                int turns = n;
                Edge.told("VALUE of " + n, Due::steeple, x -> x.parishes(turns, 0), due[n][0]);
                Edge.told("first of " + n, Due::steeple, x -> x.parishes(turns, 1), due[n][1]);
            }
        });
        Edge.of(parishes, "BAD.", () -> {
            Edge.bounds("parishes(n, 0)", Towers::rich, (x, v) -> x.parishes(v, 0), 0, 5);
            Edge.bounds("parishes(n, 1)", RungBackwards::new, (x, v) -> x.parishes(v, 1), 0, 5);
            Edge.bounds("parishes(0, what)", Towers::rich, (x, v) -> x.parishes(0, v), 0, 1);
            Edge.bounds("parishes(5, what)", Towers::rich, (x, v) -> x.parishes(5, v), 0, 1);
        });
        Edge.of(parishes, NOT_REFUSED, () -> {
            Edge.told("no turn", Towers::rich, x -> x.parishes(0, 1), -1);
            Edge.told("nothing to ring", RungBackwards::new, x -> x.parishes(5, 1), -1);
        });
        String deaf = "Promise 32: deaf";
        Edge.of(deaf, "DEAF: how many sets (what 0), the least (1; NONE).", () -> {
            int[][] due = {{0, 16, 0}, {1, 8, 1}, {4, 8, 4}, {5, 4, 5}, {63, 1, 63}, {2, 0, -1}, {32, 0, -1}};
            for (int[] d : due) {
                Edge.told("how many " + d[0], Towers::silent, x -> x.deaf(d[0], 0), d[1]);
                Edge.told("the least " + d[0], Towers::silent, x -> x.deaf(d[0], 1), d[2]);
            }
        });
        Edge.of(deaf, "BAD: also THINGS that aren't there.", () -> {
            thingsTold("deaf(v, 0)", (x, v) -> x.deaf(v, 0));
            thingsTold("deaf(v, 1)", (x, v) -> x.deaf(v, 1));
            whatTold("deaf(0, what)", (x, v) -> x.deaf(0, v), 1);
        });
        Edge.of(deaf, NOT_REFUSED, () -> Edge.told("the least", Towers::silent, x -> x.deaf(2, 1), -1));
    }

    private static RungBackwards silentAndShut() {
        RungBackwards x = Towers.silent();
        x.tell(2, 255);
        return x;
    }

    // ---- 34 to 36

    private static void worstAndBest() {
        String worst = "Promise 34: worst";
        Edge.of(worst, "The THING by whose being rung back VALUE is least (what 0), that VALUE (1), of several the first, of "
            + "those that have BEEN; NONE: there are none.", AskingPromises::worst);
        Edge.of(worst, "BAD.", () -> whatTold("worst(what)", (x, v) -> x.worst(v), 1));
        Edge.of(worst, NOT_REFUSED, () -> {
            for (int what = 0; what <= 1; what++) {
                int told = what;
                Edge.told("nothing there", RungBackwards::new, x -> x.worst(told), -1);
                Edge.told("nothing has BEEN", Towers::silent, x -> x.worst(told), -1);
            }
        });
        String best = "Promise 35: best";
        Edge.of(best, "The THING by whose being rung forwards VALUE is greatest (what 0), that VALUE (1), of several the "
            + "first, of those that haven't BEEN; NONE: there are none.", AskingPromises::best);
        Edge.of(best, "BAD.", () -> whatTold("best(what)", (x, v) -> x.best(v), 1));
        Edge.of(best, NOT_REFUSED, () -> {
            for (int what = 0; what <= 1; what++) {
                int told = what;
                Edge.told("nothing there", RungBackwards::new, x -> x.best(told), -1);
                Edge.told("all have BEEN", Towers::tenThings, x -> x.best(told), -1);
            }
        });
        String depth = "Promise 36: depth";
        Edge.of(depth, "How many steps of hanging lead from a THING down at the most (0: it hangs on nothing).", () -> {
            Edge.each("of singles", Towers::tenThings, (x, v) -> x.depth(v), 0, 0, 0, 0, 0, 0, 0, 0, 0, 0);
            Edge.each("of a ladder", Towers::ladder, (x, v) -> x.depth(v), 0, 1, 2, 3, 4, 5, 6, 7, 8, 9);
            Edge.each("of a thicket", Towers::thicket, (x, v) -> x.depth(v), 0, 1, 2, 3, 4, 5, 6, 7, 8, 9);
            Edge.each("whether they have BEEN is nothing", Towers::silent, (x, v) -> x.depth(v), 0, 1, 0, 2, 1, 3);
        });
        Edge.of(depth, "BAD.", () -> thingTold("depth", (x, v) -> x.depth(v)));
    }

    private static void worst() {
        Edge.each("all alike, the first", Towers::tenThings, (x, v) -> x.worst(v), 0, 9);
        Edge.each("the steeple", Due::steeple, (x, v) -> x.worst(v), 0, 7);
        RungBackwards x = Towers.tenThings();
        x.give(9, 0, 2);
        Edge.each("the last", () -> x, (y, v) -> y.worst(v), 9, 9);
        x.give(8, 0, 2);
        Edge.each("of two the first", () -> x, (y, v) -> y.worst(v), 8, 10);
        x.give(8, 3, 0);
        Edge.each("not one that hasn't BEEN", () -> x, (y, v) -> y.worst(v), 9, 8);
        RungBackwards y = Towers.ladder();
        y.give(0, 3, 0);
        Edge.each("one that doesn't STAND", () -> y, (z, v) -> z.worst(v), 1, 0);
        y.tell(0, 3);
        y.tell(2, 255);
        Edge.each("whether it MAY is nothing", () -> y, (z, v) -> z.worst(v), 1, 0);
        RungBackwards last = Towers.tenThings();
        for (int i = 0; i < 9; i++) {
            last.give(i, 3, 0);
        }
        Edge.each("the only one", () -> last, (z, v) -> z.worst(v), 9, 0);
    }

    private static void best() {
        Edge.each("the steeple", Due::steeple, (x, v) -> x.best(v), 4, 133);
        Edge.each("a silent one", Towers::silent, (x, v) -> x.best(v), 0, 20);
        RungBackwards x = Towers.tenThings();
        x.give(9, 3, 0);
        Edge.each("the only one", () -> x, (y, v) -> y.best(v), 9, 10);
        x.give(0, 3, 0);
        Edge.each("of two the first", () -> x, (y, v) -> y.best(v), 0, 9);
        x.give(9, 0, 2);
        Edge.each("the greater", () -> x, (y, v) -> y.best(v), 9, 10);
        x.give(9, 0, 0);
        x.give(0, 0, 0);
        Edge.each("of no WORTH", () -> x, (y, v) -> y.best(v), 0, 8);
        x.tell(2, 255);
        Edge.each("whether it MAY is nothing", () -> x, (y, v) -> y.best(v), 0, 8);
        RungBackwards y = Towers.ladder();
        y.give(0, 3, 0);
        y.give(5, 3, 0);
        Edge.each("what comes with it counts", () -> y, (z, v) -> z.best(v), 0, 5);
    }
}
