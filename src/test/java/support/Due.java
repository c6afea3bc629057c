import java.util.function.Supplier;
import java.util.function.ToLongFunction;

/** What the tests share: answers that are due, refusals that change nothing, texts fed to THE TAPE. */
final class Due {
    static final int BAD = -2;
    static final int OTHER = -3;
    static final int NOTHING = -4;
    static final int STUCK = -5;
    static final int FULL = -6;

    private static int wrong = 0;
    private static int asked = 0;

    private Due() {
    }

    static void due(String call, long got, long want) {
        asked++;
        if (got != want) {
            wrong++;
            System.out.println(call + " answered " + got + ", due is " + want);
        }
    }

    static void end() {
        System.out.println(asked + " answers asked, " + wrong + " not as due");
        if (wrong != 0) {
            System.exit(1);
        }
    }

    static int feed(RungBackwards x, String text) {
        int size = 0;
        for (char letter : text.toCharArray()) {
            size = x.feed(letter);
        }
        return size;
    }

    /** The answer of tower() for a text. */
    static int read(RungBackwards x, String text) {
        feed(x, text);
        return x.tower();
    }

    static RungBackwards towerOf(String text) {
        RungBackwards x = new RungBackwards();
        if (read(x, text) < 1) {
            throw new IllegalArgumentException(text);
        }
        return x;
    }

    /** 6 THINGS: 1 on 0; 3 on 1, 2; 4 on 2; 5 on 3; 4 hasn't BEEN. RINGERS with SLIPS 13, 42, 10, 11. */
    static RungBackwards steeple() {
        return towerOf("thing 20 0;thing 30 1;thing 7 0;thing 55 2;thing 12 0;thing 9 3;"
            + "hangs 1 0;hangs 3 1;hangs 3 2;hangs 4 2;hangs 5 3;unsaid 4;"
            + "ringer 0 3 0;ringer 1 4 1;ringer 2 2 2;ringer 5 1 3");
    }

    /** The call answers the refusal, it alone is counted, and nothing else changes. */
    static void refused(String call, Supplier<RungBackwards> maker, ToLongFunction<RungBackwards> asking, int code) {
        RungBackwards asked = maker.get();
        RungBackwards left = maker.get();
        due(call, asking.applyAsLong(asked), code);
        for (int i = BAD; i >= FULL; i--) {
            int more = i == code ? 1 : 0;
            due(call + ", then refusals " + i, asked.status(10 - i), left.status(10 - i) + more);
        }
        String after = stateOf(asked);
        String before = stateOf(left);
        if (!after.equals(before)) {
            due(call + " changed\n" + before + "to\n" + after, 1, 0);
        }
    }

    /** All that can be seen of an object, but its refusals. */
    static String stateOf(RungBackwards x) {
        StringBuilder text = new StringBuilder();
        for (int i = 0; i <= 8; i++) {
            text.append(x.status(i)).append(' ');
        }
        for (int i = 0; i < x.status(0); i++) {
            for (int what = 0; what <= 4; what++) {
                text.append(x.thingOf(i, what)).append(' ');
            }
        }
        for (int i = 0; i < x.status(1); i++) {
            for (int what = 0; what <= 2; what++) {
                text.append(x.ringerOf(i, what)).append(' ');
            }
        }
        for (int s = 0; s < 8; s++) {
            text.append(x.holds(s)).append(' ');
            for (int i = 0; i < 10; i++) {
                text.append(x.element(s, i)).append(' ');
            }
        }
        return text.append('\n').toString();
    }
}
