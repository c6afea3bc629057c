import java.util.ArrayList;
import java.util.Arrays;
import java.util.List;
import java.util.function.Supplier;
import java.util.function.ToLongFunction;
import java.util.regex.Matcher;
import java.util.regex.Pattern;

/** Tests named after a section of the document and a sentence of it, and what they share. */
final class Edge {
    interface Asking {
        long of(RungBackwards x, int v);
    }

    private static final List<String[]> TOLD = new ArrayList<>();

    private Edge() {
    }

    /** A test of its own for a sentence. */
    static void of(String section, String sentence, Runnable test) {
        TOLD.add(new String[] {section, sentence});
        Due.named(section + ": " + sentence);
        int asked = Due.countAsked();
        test.run();
        Due.due("asks something", Due.countAsked() > asked ? 1 : 0, 1);
        Due.named("");
    }

    // ---- bounds and refusals

    /** least and most are taken, and what lies beyond them on both sides is BAD. */
    static void bounds(String call, Supplier<RungBackwards> maker, Asking asking, int least, int most) {
        taken(call, maker, asking, least, most);
        bad(call, maker, asking, Integer.MIN_VALUE, least - 1, most + 1, Integer.MAX_VALUE);
    }

    /** None of these is refused. */
    static void taken(String call, Supplier<RungBackwards> maker, Asking asking, int... told) {
        for (int v : told) {
            RungBackwards x = maker.get();
            long answer = asking.of(x, v);
            Due.due(call + " of " + v + " isn't refused, it", answer < -1 ? answer : 0, 0);
            Due.counted(call + " of " + v, x, maker.get(), 0);
        }
    }

    static void bad(String call, Supplier<RungBackwards> maker, Asking asking, int... told) {
        for (int v : told) {
            Due.refused(call + " of " + v, maker, x -> asking.of(x, v), Due.BAD);
        }
    }

    /** The call answers so, is not refused, and nothing changes. */
    static void told(String call, Supplier<RungBackwards> maker, ToLongFunction<RungBackwards> asking, long want) {
        RungBackwards x = maker.get();
        RungBackwards left = maker.get();
        Due.due(call, asking.applyAsLong(x), want);
        Due.counted(call, x, left, 0);
        Due.same(call + " changed", Due.stateOf(x), Due.stateOf(left));
    }

    /** Answers in order, for v from 0 on. */
    static void each(String call, Supplier<RungBackwards> maker, Asking asking, long... want) {
        RungBackwards x = maker.get();
        for (int v = 0; v < want.length; v++) {
            Due.due(call + " of " + v, asking.of(x, v), want[v]);
        }
    }

    // ---- towers from texts

    static void reads(Supplier<RungBackwards> maker, String text, int statements) {
        RungBackwards x = maker.get();
        Due.due("'" + text + "'", Due.read(x, text), statements);
        Due.counted("'" + text + "'", x, maker.get(), 0);
        Due.due("size behind '" + text + "'", x.status(6), 0);
    }

    /** The text's FAULT is at a place: it is BAD, THE TAPE is empty, and nothing else changes. */
    static void fault(Supplier<RungBackwards> maker, String text, int place) {
        RungBackwards x = maker.get();
        RungBackwards left = maker.get();
        Due.due("'" + text + "'", Due.read(x, text), -20 - place);
        Due.counted("'" + text + "'", x, left, Due.BAD);
        Due.same("'" + text + "' changed", Due.stateOf(x), Due.stateOf(left));
    }

    /** A number of one statement may be least to most; one more or less, if that can be told, is the FAULT. */
    static void numbers(Supplier<RungBackwards> maker, String ahead, String behind, int least, int most) {
        reads(maker, ahead + least + behind, 1);
        reads(maker, ahead + most + behind, 1);
        fault(maker, ahead + (most + 1) + behind, ahead.length());
        if (least > 0) {
            fault(maker, ahead + (least - 1) + behind, ahead.length());
        }
    }

    // ---- the sentences of the document

    /** Each sentence told is there, and all there is of What it is, Terms and promises was told. */
    static void covers(String doc) {
        for (String part : doc.split("(?m)^## ")) {
            int end = part.indexOf('\n');
            String title = end < 0 ? part : part.substring(0, end);
            if (title.equals("What it is") || title.equals("Terms") || title.startsWith("Promise ")) {
                covers(title, part.substring(end).replaceAll("```(text)?", " ").replaceAll("\\s+", " "));
            }
        }
        for (String[] told : TOLD) {
            Due.due("no such section: " + told[0], doc.contains("## " + told[0] + "\n") ? 1 : 0, 1);
        }
    }

    private static void covers(String title, String text) {
        boolean[] told = new boolean[text.length()];
        Matcher face = Pattern.compile("^ `[^`]*`:? ").matcher(text);
        if (face.find()) {
            Arrays.fill(told, 0, face.end(), true);
        }
        for (String[] t : TOLD) {
            if (t[0].equals(title)) {
                int at = text.indexOf(t[1]);
                Due.due(title + " doesn't say: " + t[1], at < 0 ? 1 : 0, 0);
                while (at >= 0) {
                    Arrays.fill(told, at, at + t[1].length(), true);
                    at = text.indexOf(t[1], at + 1);
                }
            }
        }
        StringBuilder left = new StringBuilder();
        for (int i = 0; i < told.length; i++) {
            left.append(told[i] ? ' ' : text.charAt(i));
        }
        Due.same("no test for what " + title + " says", left.toString().strip(), "");
    }
}
