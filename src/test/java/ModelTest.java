import java.lang.reflect.InvocationTargetException;
import java.lang.reflect.Method;
import java.util.ArrayList;
import java.util.Arrays;
import java.util.Comparator;
import java.util.List;
import java.util.Random;

/** Long runs of drawn calls, each answer of the class beside the Model's; no call may throw. */
public final class ModelTest {
    private static final int RUNS = 400;
    private static final int CALLS = 512;
    private static final int[] ODD = {-1, -2, 8, 10, 11, 40, 41, 61, 99, 100, 255, 256, 999, 1000, 1023, 1024,
        Integer.MAX_VALUE, Integer.MIN_VALUE, 1 << 16, -1000};
    private static final String[] WORDS = {"thing", "hangs", "free", "unsaid", "said", "ringer", "weather", "crack",
        "mend", "year"};

    public static void main(String[] args) throws Exception {
        List<Method> calls = new ArrayList<>(Arrays.asList(RungBackwards.class.getDeclaredMethods()));
        calls.removeIf(m -> !java.lang.reflect.Modifier.isPublic(m.getModifiers()));
        calls.sort(Comparator.comparing(Method::getName));
        Due.due("methods of the face", calls.size(), 60);
        for (int run = 0; run < RUNS; run++) {
            oneRun(run, calls);
        }
        Due.end();
    }

    private static void oneRun(int run, List<Method> calls) throws Exception {
        Random random = new Random(run);
        RungBackwards x = new RungBackwards();
        Model model = new Model();
        StringBuilder told = new StringBuilder("run " + run + ":");
        int left = CALLS;
        if (run % 8 != 0) {
            left -= furnish(x, model, random);
        }
        String waiting = "";
        while (left-- > 0) {
            Method call;
            Object[] given;
            if (!waiting.isEmpty()) {
                call = RungBackwards.class.getMethod("feed", int.class);
                given = new Object[] {(int) waiting.charAt(0)};
                waiting = waiting.substring(1);
            } else {
                call = calls.get(random.nextInt(calls.size()));
                if (call.getName().equals("feed") && random.nextInt(3) == 0) {
                    waiting = text(random);
                }
                given = arguments(call, random, model);
            }
            Object want = Model.class.getMethod(call.getName(), call.getParameterTypes()).invoke(model, given);
            Object got;
            try {
                got = call.invoke(x, given);
            } catch (InvocationTargetException e) {
                Due.due(told + " " + call.getName() + Arrays.toString(given) + " threw " + e.getCause(), 1, 0);
                return;
            }
            told.append(' ').append(call.getName()).append(Arrays.toString(given)).append('=').append(got);
            if (!got.equals(want)) {
                Due.due(told.toString(), ((Number) got).longValue(), ((Number) want).longValue());
                return;
            }
            Due.due("", 0, 0);
        }
    }

    /** A tower, so that most calls have something to speak of: how many calls that took. */
    private static int furnish(RungBackwards x, Model model, Random random) {
        int calls = 0;
        int things = 1 + random.nextInt(10);
        for (int i = 0; i < things; i++) {
            int worth = random.nextInt(random.nextBoolean() ? 100 : 3);
            int weather = random.nextInt(4);
            Due.due("thing", x.thing(worth, weather), model.thing(worth, weather));
            calls++;
            for (int j = 0; j < i; j++) {
                if (random.nextInt(3) == 0) {
                    Due.due("hang", x.hang(i, j, 1), model.hang(i, j, 1));
                    calls++;
                }
            }
            if (random.nextInt(4) == 0) {
                Due.due("give", x.give(i, 3, 0), model.give(i, 3, 0));
                calls++;
            }
        }
        for (int i = random.nextInt(7); i > 0; i--) {
            int kind = random.nextInt(6);
            int a = random.nextInt(10);
            int bell = random.nextInt(8);
            Due.due("ringer", x.ringer(kind, a, bell), model.ringer(kind, a, bell));
            calls++;
        }
        return calls;
    }

    private static String text(Random random) {
        StringBuilder text = new StringBuilder();
        int statements = 1 + random.nextInt(6);
        for (int i = 0; i < statements; i++) {
            text.append(i == 0 ? "" : ";").append(" ".repeat(random.nextInt(2)));
            String word = WORDS[random.nextInt(WORDS.length)];
            int numbers = word.equals("ringer") ? 3 : word.equals("thing") || word.equals("hangs") ? 2 : 1;
            text.append(word);
            for (int n = 0; n < numbers; n++) {
                text.append(n == 0 ? "" : " ").append(" ".repeat(random.nextInt(2)));
                text.append(random.nextInt(word.equals("year") ? 1001 : n == 0 ? 5 : 4));
            }
        }
        for (int i = random.nextInt(3); i > 1; i--) {
            int place = random.nextInt(text.length());
            switch (random.nextInt(4)) {
                case 0 -> text.deleteCharAt(place);
                case 1 -> text.setCharAt(place, (char) random.nextInt(256));
                case 2 -> text.insert(place, "; 0a19".charAt(random.nextInt(6)));
                default -> text.setLength(place);
            }
        }
        return text.toString();
    }

    private static Object[] arguments(Method call, Random random, Model model) {
        Class<?>[] types = call.getParameterTypes();
        Object[] given = new Object[types.length];
        for (int i = 0; i < types.length; i++) {
            if (types[i] == long.class) {
                given[i] = random.nextInt(4) == 0 ? random.nextLong() : (long) random.nextInt(10);
            } else if (random.nextInt(25) == 0) {
                given[i] = ODD[random.nextInt(ODD.length)];
            } else {
                given[i] = usual(call.getName(), i, random, model);
            }
        }
        return given;
    }

    /** A number that is often none too many for the place. */
    private static int usual(String call, int place, Random random, Model model) {
        switch (call) {
            case "to", "unsay", "until", "ways":
                return random.nextInt(1 << Math.max(1, model.status(0)));
            case "deaf":
                return place == 1 ? random.nextInt(2) : random.nextInt(1 << Math.max(1, model.status(0)))
                    & random.nextInt(1024) & random.nextInt(1024);
            case "well", "once":
                return random.nextInt(1 << Math.max(1, model.status(1)));
            case "parishes":
                return random.nextInt(place == 0 ? 6 : 2);
            case "under":
                return random.nextInt(300);
            case "kinds":
                return place == 1 ? random.nextInt(60) : random.nextInt(6);
            case "whose":
                return random.nextInt(60);
            case "years":
                return 1 + random.nextInt(8);
            case "tell":
                return place == 0 ? random.nextInt(3) : random.nextInt(random.nextBoolean() ? 4 : 256);
            case "feed":
                return "thing 12;".charAt(random.nextInt(9));
            case "wipe":
                return 0;
            case "row":
                return place == 2 ? random.nextInt(41) : random.nextInt(place == 1 ? 5 : 8);
            case "show":
                return place == 1 ? random.nextInt(7) - 1 : random.nextInt(8);
            default:
                return random.nextInt(random.nextInt(3) == 0 ? 10 : 4);
        }
    }
}
