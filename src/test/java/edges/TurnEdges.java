/** Terms, PARISHES by turns, and what the DEAF remember. */
final class TurnEdges {
    private static final String TERMS = "Terms";

    private TurnEdges() {
    }

    static void all() {
        Edge.of(TERMS, "PARISHES by turns, n of them (0 to 5):", TurnEdges::turns);
        Edge.of(TERMS, "the one rings back a THING that has BEEN (WEATHER, CRACKS being nothing) so that VALUE is least "
            + "at the end,", TurnEdges::theOne);
        Edge.of(TERMS, "the other one rings forwards one that hasn't (nothing, if there is none such):",
            TurnEdges::theOther);
        Edge.of(TERMS, "VALUE then, both choosing best; what the first one rings, of several the first;",
            TurnEdges::bothBest);
        Edge.of(TERMS, "NONE: n is 0, or nothing.", TurnEdges::nothingRung);
        Edge.of(TERMS, "DEAF remember told THINGS (bits) as having STOOD once: sets of THINGS (of those that haven't "
            + "BEEN) that, rung forwards, would have just these STAND besides those now: how many; the least as bits; "
            + "NONE.", TurnEdges::deaf);
    }

    /** Singles of these WORTHS; those of the bits have BEEN. */
    private static RungBackwards singles(int been, int... worths) {
        RungBackwards x = new RungBackwards();
        for (int i = 0; i < worths.length; i++) {
            x.thing(worths[i], 0);
            x.give(i, 3, been >> i & 1);
        }
        return x;
    }

    private static void played(String call, RungBackwards x, int[] values, int[] firsts) {
        for (int n = 0; n < values.length; n++) {
            Due.due(call + ", VALUE behind " + n, x.parishes(n, 0), values[n]);
            Due.due(call + ", first of " + n, x.parishes(n, 1), firsts[n]);
        }
    }

    private static void turns() {
        Edge.bounds("parishes(n, 0)", Towers::rich, (x, v) -> x.parishes(v, 0), 0, 5);
        Edge.bounds("parishes(n, 1)", Towers::rich, (x, v) -> x.parishes(v, 1), 0, 5);
        // The one rings first: behind an odd number one is missing, behind an even one all is back.
        played("ten alike", Towers.tenThings(), new int[] {10, 9, 10, 9, 10, 9}, new int[] {-1, 0, 0, 0, 0, 0});
    }

    private static void theOne() {
        RungBackwards x = singles(7, 5, 9, 7);
        played("the one rings back what is worth most", x, new int[] {21, 12}, new int[] {-1, 1});
        x.tell(0, 2);
        x.tell(2, 255);
        played("WEATHER, CRACKS being nothing", x, new int[] {21, 12}, new int[] {-1, 1});
        played("not what hasn't BEEN", singles(5, 5, 9, 7), new int[] {12, 5}, new int[] {-1, 2});
        RungBackwards ladder = Towers.ladder();
        played("what all hang on", ladder, new int[] {10, 0}, new int[] {-1, 0});
        ladder.give(0, 3, 0);
        played("one that has BEEN and doesn't STAND", ladder, new int[] {0, 0}, new int[] {-1, 1});
        played("the one or the other, the first", singles(6, 1, 2, 4), new int[] {6, 2, 6, 2}, new int[] {-1, 2, 1, 1});
    }

    private static void theOther() {
        played("the other one has what the one rang alone", singles(7, 5, 9, 7), new int[] {21, 12, 21},
            new int[] {-1, 1, 0});
        played("he rings what is worth most", singles(1, 3, 9, 8), new int[] {3, 0, 9}, new int[] {-1, 0, 0});
        RungBackwards shut = singles(1, 3, 9, 8);
        shut.tell(2, 255);
        shut.tell(0, 3);
        played("WEATHER, CRACKS being nothing", shut, new int[] {3, 0, 9}, new int[] {-1, 0, 0});
        played("nothing there is nothing to ring for both", new RungBackwards(), new int[6],
            new int[] {-1, -1, -1, -1, -1, -1});
    }

    private static void bothBest() {
        played("one alone", singles(1, 7), new int[] {7, 0, 7, 0, 7, 0}, new int[] {-1, 0, 0, 0, 0, 0});
        played("two alike", singles(3, 5, 5), new int[] {10, 5, 10, 5, 10, 5}, new int[] {-1, 0, 0, 0, 0, 0});
        played("of no WORTH", singles(3, 0, 0), new int[6], new int[] {-1, 0, 0, 0, 0, 0});
        RungBackwards feet = singles(13, 1, 2, 4, 8);
        feet.hang(2, 0, 1);
        feet.hang(3, 1, 1);
        // 0 and 2 STAND. If two are rung: 0 back lets 1 bring 3 with it, 10; 2 back 11; 3 back but 7.
        played("feet", feet, new int[] {5, 0, 7, 0, 7, 0}, new int[] {-1, 0, 3, 0, 3, 0});
    }

    private static void nothingRung() {
        Edge.told("no turn", Towers::tenThings, x -> x.parishes(0, 1), -1);
        Edge.told("no turn, VALUE now", Towers::tenThings, x -> x.parishes(0, 0), 10);
        for (int n = 0; n <= 5; n++) {
            int turns = n;
            Edge.told("nothing has BEEN, " + n, Towers::silent, x -> x.parishes(turns, 1), -1);
            Edge.told("nothing there, " + n, RungBackwards::new, x -> x.parishes(turns, 1), -1);
        }
        Edge.told("one turn, nothing has BEEN", Towers::silent, x -> x.parishes(1, 0), 0);
        played("the one has nothing to ring, the other one has", singles(0, 5, 9), new int[] {0, 0, 9, 0, 9, 0},
            new int[] {-1, -1, -1, -1, -1, -1});
    }

    private static void remembered(String call, RungBackwards x, int things, int count, int least) {
        Due.due(call + ", how many", x.deaf(things, 0), count);
        Due.due(call + ", the least", x.deaf(things, 1), least);
    }

    private static void deaf() {
        remembered("nothing there", new RungBackwards(), 0, 1, 0);
        remembered("all STAND, none is told", Towers.tenThings(), 0, 1, 0);
        remembered("nothing has BEEN, none is told", Towers.silent(), 0, 16, 0);
        remembered("the first foot", Towers.silent(), 1, 8, 1);
        remembered("both feet", Towers.silent(), 5, 4, 5);
        remembered("all", Towers.silent(), 63, 1, 63);
        remembered("what can't STAND without another", Towers.silent(), 2, 0, -1);
        remembered("one that hangs on one that STANDS", Due.steeple(), 16, 1, 16);
        remembered("nothing more", Due.steeple(), 0, 1, 0);
        RungBackwards x = Towers.ladder();
        x.give(0, 3, 0);
        remembered("those that had BEEN come with it", x, 1023, 1, 1);
        remembered("it can't come alone", x, 1, 0, -1);
        x.give(9, 3, 0);
        remembered("the last stays away", x, 511, 1, 1);
        remembered("the last comes, too", x, 1023, 1, 513);
        remembered("the last may be rung for nothing", x, 0, 2, 0);
        x.tell(2, 255);
        x.tell(0, 3);
        Edge.told("NONE isn't refused", Towers::silent, y -> y.deaf(2, 1), -1);
        // As NOTES.md has it: told THINGS that STAND already change nothing.
        remembered("told ones that STAND already", Due.steeple(), 47, 1, 0);
        remembered("one that STANDS and one that doesn't", Due.steeple(), 17, 1, 16);
    }
}
