import java.util.function.Supplier;
import java.util.function.ToLongFunction;

/** What the tests share: answers that are due, refusals that change nothing, texts fed to THE TAPE. */
final class Due {
    static final int BAD = -2;
    static final int OTHER = -3;
    static final int NOTHING = -4;
    static final int STUCK = -5;
    static final int FULL = -6;

    private static int wrong = 0;
    private static int asked = 0;
    private static String name = "";

    private Due() {
    }

    /** What the answers that follow belong to; it is told with each that isn't due. */
    static void named(String test) {
        name = test.isEmpty() ? "" : test + " | ";
    }

    static int countAsked() {
        return asked;
    }

    static int countWrong() {
        return wrong;
    }

    static void due(String call, long got, long want) {
        asked++;
        if (got != want) {
            wrong++;
            System.out.println(name + call + " answered " + got + ", due is " + want);
        }
    }

    static void same(String call, String got, String want) {
        asked++;
        if (!got.equals(want)) {
            wrong++;
            System.out.println(name + call + ":\n" + got + "due is\n" + want);
        }
    }

    static void end() {
        System.out.println(asked + " answers asked, " + wrong + " not as due");
        if (wrong != 0) {
            System.exit(1);
        }
    }

    static int feed(RungBackwards x, String text) {
        int size = 0;
        for (char letter : text.toCharArray()) {
            size = x.feed(letter);
        }
        return size;
    }

    /** The answer of tower() for a text. */
    static int read(RungBackwards x, String text) {
        feed(x, text);
        return x.tower();
    }

    static RungBackwards towerOf(String text) {
        RungBackwards x = new RungBackwards();
        if (read(x, text) < 1) {
            throw new IllegalArgumentException(text);
        }
        return x;
    }

    /** 6 THINGS: 1 on 0; 3 on 1, 2; 4 on 2; 5 on 3; 4 hasn't BEEN. RINGERS with SLIPS 13, 42, 10, 11. */
    static RungBackwards steeple() {
        RungBackwards x = new RungBackwards();
        int[][] things = {{20, 0}, {30, 1}, {7, 0}, {55, 2}, {12, 0}, {9, 3}};
        for (int[] t : things) {
            x.thing(t[0], t[1]);
        }
        int[][] hangs = {{1, 0}, {3, 1}, {3, 2}, {4, 2}, {5, 3}};
        for (int[] h : hangs) {
            x.hang(h[0], h[1], 1);
        }
        x.give(4, 3, 0);
        int[][] ringers = {{0, 3, 0}, {1, 4, 1}, {2, 2, 2}, {5, 1, 3}};
        for (int[] r : ringers) {
            x.ringer(r[0], r[1], r[2]);
        }
        return x;
    }

    /** The call answers the refusal, it alone is counted, and nothing else changes. */
    static void refused(String call, Supplier<RungBackwards> maker, ToLongFunction<RungBackwards> asking, int code) {
        RungBackwards asked = maker.get();
        RungBackwards left = maker.get();
        due(call, asking.applyAsLong(asked), code);
        counted(call, asked, left, code);
        same(call + " changed", stateOf(asked), stateOf(left));
        same(call + " changed what is behind", furtherOf(asked), furtherOf(left));
    }

    /** The one has a refusal of that code more than the other one, and as many of the others; of code 0: all alike. */
    static void counted(String call, RungBackwards asked, RungBackwards left, int code) {
        for (int i = BAD; i >= FULL; i--) {
            int more = i == code ? 1 : 0;
            due(call + ", then refusals " + i, asked.status(10 - i), left.status(10 - i) + more);
        }
    }

    /** All that can be seen of an object without changing it, but its refusals (asking for sizes is refused, too). */
    static String stateOf(RungBackwards x) {
        StringBuilder text = new StringBuilder();
        for (int i = 0; i <= 8; i++) {
            text.append(x.status(i)).append(' ');
        }
        for (int i = 0; i < x.status(0); i++) {
            text.append("\n thing ");
            for (int what = 0; what <= 4; what++) {
                text.append(x.thingOf(i, what)).append(' ');
            }
        }
        for (int i = 0; i < x.status(1); i++) {
            text.append("\n ringer ");
            for (int what = 0; what <= 2; what++) {
                text.append(x.ringerOf(i, what)).append(' ');
            }
        }
        for (int s = 0; s < 8; s++) {
            int held = x.holds(s);
            text.append("\n shelf ").append(held);
            for (int i = 0, n = held >= 0 && held <= 4 ? sizeOf(x, s) : 0; i < n; i++) {
                text.append(' ').append(x.element(s, i));
            }
        }
        return text.append('\n').toString();
    }

    /** How many elements the ROW in a SHELF has: so many can be copied onto themselves, and no more. */
    static int sizeOf(RungBackwards x, int s) {
        int least = 0;
        int most = 40;
        while (least < most) {
            int middle = (least + most + 1) / 2;
            if (x.copy(s, s, 0, 0, middle) == middle) {
                least = middle;
            } else {
                most = middle - 1;
            }
        }
        return least;
    }

    /** What is seen only by going on, the bytes of THE TAPE and what was kept; the object is spent then. */
    private static String furtherOf(RungBackwards x) {
        return x.tower() + "\n" + stateOf(x) + x.back() + "\n" + stateOf(x);
    }
}
