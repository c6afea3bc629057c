/** Promises 19, 28, 29, 33, 47, 52: who slips, and how likely it goes well. */
public final class RingersTest {
    public static void main(String[] args) {
        well();
        whose();
        crew();
        kinds();
        once();
        ofKind();
        Due.end();
    }

    private static void well() {
        RungBackwards x = Due.steeple();
        Due.due("nobody", x.well(0), 1000000);
        Due.due("well 1", x.well(1), 870000);
        Due.due("well 2", x.well(2), 580000);
        Due.due("well 3", x.well(3), 504600);
        Due.due("well of all, cut", x.well(15), 404184);
        x.tell(2, 8);
        Due.due("deaf", x.well(8), 500000);
        RungBackwards y = Due.towerOf("ringer 0 9 0;ringer 0 3 0;ringer 0 1 0;ringer 0 7 0;ringer 0 1 0");
        // 810000, 704700, 627183, 520561 (.89), 463299 (.29)
        Due.due("cut each time", y.well(31), 463299);
        Due.refused("well of another", Due::steeple, z -> z.well(16), Due.BAD);
        Due.refused("well of some and another", Due::steeple, z -> z.well(17), Due.BAD);
        Due.refused("well -1", Due::steeple, z -> z.well(-1), Due.BAD);
        Due.refused("well of the least", Due::steeple, z -> z.well(Integer.MIN_VALUE), Due.BAD);
        Due.refused("well without ringers", RungBackwards::new, z -> z.well(1), Due.BAD);
    }

    private static void whose() {
        RungBackwards x = Due.steeple();
        int[][] due = {{0, 15}, {10, 15}, {11, 11}, {12, 3}, {13, 3}, {14, 2}, {42, 2}, {43, 0}, {99, 0}};
        for (int[] d : due) {
            Due.due("whose " + d[0], x.whose(d[0]), d[1]);
        }
        x.tell(2, 8);
        Due.due("the deaf one, cracked", x.whose(50), 8);
        Due.refused("whose -1", Due::steeple, y -> y.whose(-1), Due.BAD);
        Due.refused("whose 100", Due::steeple, y -> y.whose(100), Due.BAD);
    }

    private static void crew() {
        RungBackwards x = Due.steeple();
        int[] due = {0, 4, 12, 13, 15, -1, -1};
        for (int n = 0; n <= 6; n++) {
            Due.due("crew " + n, x.crew(n), due[n]);
        }
        Due.due("NONE isn't refused", x.status(12), 0);
        RungBackwards y = Due.towerOf("ringer 0 0 0;ringer 2 9 0;ringer 2 1 0;ringer 0 1 0;ringer 2 0 0;ringer 4 0 0");
        Due.due("the least bits of several", y.crew(3), 35);
        Due.due("all six", y.crew(6), 63);
        Due.refused("crew -1", Due::steeple, z -> z.crew(-1), Due.BAD);
        Due.refused("crew 7", Due::steeple, z -> z.crew(7), Due.BAD);
    }

    private static void kinds() {
        RungBackwards x = Due.steeple();
        int[][] due = {{13, 33}, {39, 2}, {20, 8}, {10, 4}, {5, 16}, {50, 0}, {0, 0}, {99, 0}};
        for (int[] d : due) {
            Due.due("kinds by " + d[0], x.kinds(0, d[0]), d[1]);
        }
        x.tell(2, 1);
        Due.due("deaf, cracked", x.kinds(0, 50), 32);
        Due.due("not deaf", x.kinds(0, 13), 1);
        Due.due("as an old one's a is nothing", x.kinds(3, 10), 4);
        RungBackwards y = Due.towerOf("ringer 1 0 0");
        Due.due("a of nothing", y.kinds(0, 10), 37);
        Due.refused("ringer 4", Due::steeple, z -> z.kinds(4, 0), Due.BAD);
        Due.refused("ringer -1", Due::steeple, z -> z.kinds(-1, 0), Due.BAD);
        Due.refused("v -1", Due::steeple, z -> z.kinds(0, -1), Due.BAD);
        Due.refused("v 100", Due::steeple, z -> z.kinds(0, 100), Due.BAD);
    }

    private static void once() {
        RungBackwards x = Due.steeple();
        Due.due("nobody", x.once(0), 0);
        Due.due("once 1", x.once(1), 130000);
        Due.due("once 3", x.once(3), 440800);
        Due.due("once of all, each cut", x.once(15), 447944);
        Due.refused("once of another", Due::steeple, y -> y.once(16), Due.BAD);
        Due.refused("once -1", Due::steeple, y -> y.once(-1), Due.BAD);
    }

    private static void ofKind() {
        RungBackwards x = Due.steeple();
        int[] due = {1, 1, 1, 0, 0, 1};
        for (int kind = 0; kind < 6; kind++) {
            Due.due("of kind " + kind, x.ofKind(kind), due[kind]);
        }
        x.ringer(5, 0, 0);
        Due.due("two deaf", x.ofKind(5), 2);
        Due.due("none under it counts", x.ofKind(0), 1);
        Due.refused("kind 6", Due::steeple, y -> y.ofKind(6), Due.BAD);
        Due.refused("kind -1", Due::steeple, y -> y.ofKind(-1), Due.BAD);
    }
}
