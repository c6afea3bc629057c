import java.util.ArrayList;
import java.util.Comparator;
import java.util.HashMap;
import java.util.List;
import java.util.Map;
import java.util.TreeMap;
import java.util.TreeSet;
import java.util.function.IntPredicate;
import java.util.function.ToIntFunction;
import java.util.regex.Matcher;
import java.util.regex.Pattern;

/** The document told a second time, as plainly as the Java library allows, to compare the class with. */
public final class Model {
    private static final class Thing {
        int worth;
        int weather;
        int age;
        boolean been = true;
        TreeSet<Integer> on = new TreeSet<>();

        Thing like() {
            Thing t = new Thing();
            t.worth = worth;
            t.weather = weather;
            t.age = age;
            t.been = been;
            t.on = new TreeSet<>(on);
            return t;
        }
    }

    private static final class State {
        List<Thing> things = new ArrayList<>();
        List<int[]> ringers = new ArrayList<>();
        int weather;
        int year;
        TreeSet<Integer> cracked = new TreeSet<>();
        int seed = 1;

        State like() {
            State s = new State();
            for (Thing t : things) {
                s.things.add(t.like());
            }
            s.ringers.addAll(ringers);
            s.weather = weather;
            s.year = year;
            s.cracked.addAll(cracked);
            s.seed = seed;
            return s;
        }
    }

    private State st = new State();
    private State kept;
    private final Object[] shelves = new Object[8];
    private final int[] sorts = new int[8];
    private String tape = "";
    private final Map<Integer, Integer> refusals = new HashMap<>();

    private int no(int code) {
        refusals.merge(code, 1, Integer::sum);
        return code;
    }

    private static boolean in(long v, long least, long most) {
        return least <= v && v <= most;
    }

    private int count() {
        return st.things.size();
    }

    private boolean isThing(int t) {
        return in(t, 0, count() - 1);
    }

    private boolean isRinger(int r) {
        return in(r, 0, st.ringers.size() - 1);
    }

    private static boolean areBits(int bits, int size) {
        return in(bits, 0, (1L << size) - 1);
    }

    private static boolean has(int bits, int i) {
        return (bits & (1 << i)) != 0;
    }

    private int bits(IntPredicate which) {
        int sum = 0;
        for (int i = 0; i < count(); i++) {
            sum += which.test(i) ? 1 << i : 0;
        }
        return sum;
    }

    private int been() {
        return bits(i -> st.things.get(i).been);
    }

    private boolean stands(int i, int been) {
        return has(been, i) && st.things.get(i).on.stream().allMatch(j -> stands(j, been));
    }

    private int standing(int been) {
        return bits(i -> stands(i, been));
    }

    private int value(int been) {
        int sum = 0;
        for (int i = 0; i < count(); i++) {
            sum += stands(i, been) ? st.things.get(i).worth : 0;
        }
        return sum;
    }

    private boolean open(int i) {
        return !st.cracked.contains(i % 8);
    }

    private int may(int i) {
        Thing t = st.things.get(i);
        return !open(i) ? 0 : !t.been ? 2 : t.weather == st.weather ? 1 : 0;
    }

    private void ringTruly(int i) {
        Thing t = st.things.get(i);
        if (!t.been) {
            t.weather = st.weather;
            t.age = t.age == 0 ? 0 : t.age - 1;
        }
        t.been = !t.been;
    }

    /** All sets of these, fewest first, then least bits. */
    private static List<Integer> sets(int of) {
        List<Integer> all = new ArrayList<>();
        for (int s = 0; s < 1024; s++) {
            if ((s | of) == of) {
                all.add(s);
            }
        }
        all.sort(Comparator.comparingInt((Integer s) -> Integer.bitCount(s)).thenComparingInt(s -> s));
        return all;
    }

    public int row(int s, int sort, int n) {
        if (!in(s, 0, 7) || !in(sort, 0, 4) || !in(n, 0, 40)) {
            return no(-2);
        }
        shelves[s] = new long[n];
        sorts[s] = sort;
        return 1;
    }

    public int set(int s, int i, long v) {
        if (!in(s, 0, 7)) {
            return no(-2);
        }
        if (shelves[s] instanceof Integer) {
            return no(-3);
        }
        if (shelves[s] == null) {
            return no(-4);
        }
        long[] row = (long[]) shelves[s];
        if (!in(i, 0, row.length - 1)) {
            return no(-2);
        }
        int[] width = {8, 16, 32, 64, 1};
        int shift = 64 - width[sorts[s]];
        row[i] = sorts[s] == 4 ? (v == 0 ? 0 : 1) : v << shift >> shift;
        return 1;
    }

    public int copy(int p, int q, int i, int j, int n) {
        if (!in(p, 0, 7) || !in(q, 0, 7)) {
            return no(-2);
        }
        Object a = shelves[p];
        Object b = shelves[q];
        if (a instanceof Integer || b instanceof Integer || a != null && b != null && sorts[p] != sorts[q]) {
            return no(-3);
        }
        if (a == null || b == null) {
            return no(-4);
        }
        long[] from = (long[]) a;
        long[] to = (long[]) b;
        if (i < 0 || j < 0 || n < 0 || (long) i + n > from.length || (long) j + n > to.length) {
            return no(-2);
        }
        long[] were = from.clone();
        for (int k = 0; k < n; k++) {
            to[j + k] = were[i + k];
        }
        return n;
    }

    public long element(int s, int i) {
        return in(s, 0, 7) && shelves[s] instanceof long[] row && in(i, 0, row.length - 1) ? row[i] : 0;
    }

    public int holds(int s) {
        if (!in(s, 0, 7) || shelves[s] == null) {
            return -1;
        }
        return shelves[s] instanceof Integer r ? 10 + r : sorts[s];
    }

    public int show(int s, int ringer) {
        if (!in(s, 0, 7) || ringer != -1 && !isRinger(ringer)) {
            return no(-2);
        }
        shelves[s] = ringer == -1 ? null : (Object) ringer;
        return 1;
    }

    public int says(int s, int kind) {
        if (!in(s, 0, 7) || !in(kind, 0, 5)) {
            return no(-2);
        }
        if (shelves[s] instanceof long[]) {
            return no(-3);
        }
        if (shelves[s] == null) {
            return no(-4);
        }
        int r = (Integer) shelves[s];
        String[] lines = {"0", "01", "02", "013", "024", "05"};
        if (lines[st.ringers.get(r)[0]].indexOf('0' + kind) < 0) {
            return no(-3);
        }
        return kind == 0 ? st.ringers.get(r)[2] : slip(r);
    }

    private int slip(int r) {
        return slip(st.ringers.get(r)[0], r);
    }

    private int slip(int kind, int r) {
        int a = st.ringers.get(r)[1];
        switch (kind) {
            case 1: return 30 + 3 * a;
            case 2: return 10;
            case 3: return (int) Math.ceil((30 + 3 * a) / 2.0);
            case 4: return 5;
            case 5: return st.cracked.contains(st.ringers.get(r)[2]) ? 50 : 10 + a;
            default: return 10 + a;
        }
    }

    public int thing(int worth, int weather) {
        if (!in(worth, 0, 99) || !in(weather, 0, 3)) {
            return no(-2);
        }
        if (count() == 10) {
            return no(-6);
        }
        Thing t = new Thing();
        t.worth = worth;
        t.weather = weather;
        st.things.add(t);
        return count() - 1;
    }

    public int ringer(int kind, int a, int bell) {
        if (!in(kind, 0, 5) || !in(a, 0, 9) || !in(bell, 0, 7)) {
            return no(-2);
        }
        if (st.ringers.size() == 6) {
            return no(-6);
        }
        st.ringers.add(new int[] {kind, a, bell});
        return st.ringers.size() - 1;
    }

    public int hang(int thing, int lesser, int on) {
        if (!isThing(thing) || !in(lesser, 0, thing - 1) || !in(on, 0, 1)) {
            return no(-2);
        }
        TreeSet<Integer> set = st.things.get(thing).on;
        return (on == 1 ? !set.add(lesser) : set.remove(lesser)) ? 1 : 0;
    }

    public int give(int thing, int what, int v) {
        int[] most = {99, 3, 99, 1};
        if (!isThing(thing) || !in(what, 0, 3) || !in(v, 0, most[what])) {
            return no(-2);
        }
        int was = thingOf(thing, what);
        Thing t = st.things.get(thing);
        if (what == 0) {
            t.worth = v;
        } else if (what == 1) {
            t.weather = v;
        } else if (what == 2) {
            t.age = v;
        } else {
            t.been = v == 1;
        }
        return was;
    }

    private int cracks() {
        return st.cracked.stream().mapToInt(b -> 1 << b).sum();
    }

    public int tell(int what, int v) {
        int[] most = {3, 999, 255};
        if (!in(what, 0, 2) || !in(v, 0, most[what])) {
            return no(-2);
        }
        int was = status(what + 2);
        if (what == 0) {
            st.weather = v;
        } else if (what == 1) {
            st.year = v;
        } else {
            st.cracked.clear();
            for (int b = 0; b < 8; b++) {
                if (has(v, b)) {
                    st.cracked.add(b);
                }
            }
        }
        return was;
    }

    public int feed(int letter) {
        if (!in(letter, 0, 255)) {
            return no(-2);
        }
        if (tape.length() == 250) {
            return no(-6);
        }
        tape += (char) letter;
        return tape.length();
    }

    public int wipe() {
        int was = tape.length();
        tape = "";
        return was;
    }

    private static final Map<String, String> SHAPES = new TreeMap<>(Map.of("thing", "WR", "hangs", "XY", "free", "X",
        "unsaid", "X", "said", "X", "ringer", "KAB", "weather", "R", "crack", "B", "mend", "B", "year", "N"));

    public int tower() {
        String text = tape;
        tape = "";
        List<int[]> places = new ArrayList<>();
        Matcher m = Pattern.compile("[a-z]+|[0-9]+|[^ ]", Pattern.DOTALL).matcher(text);
        while (m.find()) {
            places.add(new int[] {m.start(), m.end()});
        }
        State before = st.like();
        int at = 0;
        int statements = 0;
        int fault = -1;
        boolean more = true;
        while (more && fault < 0) {
            int[] used = {0};
            fault = statement(text, places, at, used);
            at += used[0];
            statements++;
            if (fault < 0 && at == places.size()) {
                more = false;
            } else if (fault < 0 && !text.substring(places.get(at)[0], places.get(at)[1]).equals(";")) {
                fault = places.get(at)[0];
            } else {
                at++;
            }
        }
        if (fault >= 0) {
            st = before;
            no(-2);
            return -20 - fault;
        }
        return statements;
    }

    private int statement(String text, List<int[]> places, int at, int[] used) {
        if (at >= places.size()) {
            return text.length();
        }
        int here = places.get(at)[0];
        String word = text.substring(here, places.get(at)[1]);
        String shape = SHAPES.get(word);
        boolean full = word.equals("thing") && count() == 10 || word.equals("ringer") && st.ringers.size() == 6;
        if (shape == null || full) {
            return here;
        }
        int[] v = new int[3];
        for (int i = 0; i < shape.length(); i++) {
            if (at + 1 + i >= places.size()) {
                return text.length();
            }
            int[] place = places.get(at + 1 + i);
            String digits = text.substring(place[0], place[1]);
            if (!digits.matches("[0-9]{1,3}")) {
                return place[0];
            }
            v[i] = Integer.parseInt(digits);
            Map<Character, Integer> most = Map.of('W', 99, 'R', 3, 'X', count() - 1, 'Y', v[0] - 1, 'K', 5, 'A', 9,
                'B', 7, 'N', 999);
            if (v[i] > most.get(shape.charAt(i))) {
                return place[0];
            }
        }
        used[0] = 1 + shape.length();
        switch (word) {
            case "thing" -> thing(v[0], v[1]);
            case "hangs" -> hang(v[0], v[1], 1);
            case "free" -> free(v[0]);
            case "unsaid" -> give(v[0], 3, 0);
            case "said" -> give(v[0], 3, 1);
            case "ringer" -> ringer(v[0], v[1], v[2]);
            case "weather" -> st.weather = v[0];
            case "crack" -> st.cracked.add(v[0]);
            case "mend" -> st.cracked.remove(v[0]);
            default -> st.year = v[0];
        }
        return -1;
    }

    public int thingOf(int thing, int what) {
        if (!isThing(thing) || !in(what, 0, 7)) {
            return no(-2);
        }
        Thing t = st.things.get(thing);
        int[] all = {t.worth, t.weather, t.age, t.been ? 1 : 0, bits(t.on::contains), stands(thing, been()) ? 1 : 0,
            open(thing) ? 1 : 0, may(thing)};
        return all[what];
    }

    public int ringerOf(int ringer, int what) {
        if (!isRinger(ringer) || !in(what, 0, 3)) {
            return no(-2);
        }
        return what == 3 ? slip(ringer) : st.ringers.get(ringer)[what];
    }

    private int wellBy(int ringers) {
        long well = 1000000;
        for (int r = 0; r < st.ringers.size(); r++) {
            well = has(ringers, r) ? well * (100 - slip(r)) / 100 : well;
        }
        return (int) well;
    }

    public int well(int ringers) {
        return areBits(ringers, st.ringers.size()) ? wellBy(ringers) : no(-2);
    }

    public int all(int what) {
        if (!in(what, 0, 4)) {
            return no(-2);
        }
        int[] all = {standing(been()), value(been()), been(), bits(i -> may(i) == 1), bits(i -> may(i) == 2)};
        return all[what];
    }

    private int offBy(int thing) {
        int now = been();
        return bits(i -> stands(i, now) && !stands(i, now & ~(1 << thing)));
    }

    public int off(int thing) {
        return isThing(thing) ? offBy(thing) : no(-2);
    }

    private boolean leadsTo(int from, int to) {
        return st.things.get(from).on.stream().anyMatch(j -> j == to || leadsTo(j, to));
    }

    public int down(int thing) {
        return isThing(thing) ? bits(i -> leadsTo(thing, i)) : no(-2);
    }

    public int up(int thing) {
        return isThing(thing) ? bits(i -> leadsTo(i, thing)) : no(-2);
    }

    private static int first(List<Integer> sets, IntPredicate fits) {
        return sets.stream().filter(s -> fits.test(s)).findFirst().orElse(-1);
    }

    public int to(int things) {
        int now = been();
        return areBits(things, count()) ? first(sets(now), s -> standing(now & ~s) == things) : no(-2);
    }

    public int unsay(int things) {
        if (!areBits(things, count())) {
            return no(-2);
        }
        int now = been();
        for (int others = count(); others >= 0; others--) {
            int most = others;
            int found = first(sets(now), s -> (standing(now & ~s) & things) == 0
                && Integer.bitCount(standing(now & ~s) & ~things) == most);
            if (found != -1) {
                return found;
            }
        }
        return -99;
    }

    public int until(int things) {
        if (!areBits(things, count())) {
            return no(-2);
        }
        int left = things;
        for (int i = 0; i < count(); i++) {
            if (has(things, i) && (!st.things.get(i).been || !open(i))) {
                return -1;
            }
        }
        int days = 0;
        int weather = st.weather;
        while (left != 0) {
            for (int i = 0; i < count(); i++) {
                if (st.things.get(i).weather == weather) {
                    left &= ~(1 << i);
                }
            }
            weather = weather == 3 ? 0 : weather + 1;
            days++;
        }
        return days;
    }

    public int slipped(int thing, int k) {
        return isThing(thing) && in(k, 1, 9) ? offBy((thing + k) % count()) : no(-2);
    }

    public int whose(int v) {
        if (!in(v, 0, 99)) {
            return no(-2);
        }
        int sum = 0;
        for (int r = 0; r < st.ringers.size(); r++) {
            sum += slip(r) >= v ? 1 << r : 0;
        }
        return sum;
    }

    public int crew(int n) {
        if (!in(n, 0, 6)) {
            return no(-2);
        }
        return sets((1 << st.ringers.size()) - 1).stream().filter(s -> Integer.bitCount(s) == n)
            .max(Comparator.comparingInt((Integer s) -> wellBy(s)).thenComparing(s -> -s)).orElse(-1);
    }

    public int putBack(int thing) {
        if (!isThing(thing)) {
            return no(-2);
        }
        int missing = bits(i -> (i == thing || leadsTo(thing, i)) && !st.things.get(i).been);
        int shut = bits(i -> has(missing, i) && !open(i));
        return shut != 0 ? -1 : Integer.bitCount(missing);
    }

    private int[] played(int been, int turns, boolean back) {
        if (turns == 0) {
            return new int[] {value(been), -1};
        }
        int[] best = null;
        for (int i = 0; i < count(); i++) {
            if (has(been, i) == back) {
                int v = played(been ^ 1 << i, turns - 1, !back)[0];
                if (best == null || (back ? v < best[0] : v > best[0])) {
                    best = new int[] {v, i};
                }
            }
        }
        return best != null ? best : new int[] {played(been, turns - 1, !back)[0], -1};
    }

    public int parishes(int n, int what) {
        return in(n, 0, 5) && in(what, 0, 1) ? played(been(), n, true)[what] : no(-2);
    }

    public int deaf(int things, int what) {
        if (!areBits(things, count()) || !in(what, 0, 1)) {
            return no(-2);
        }
        int now = been();
        int due = standing(now) | things;
        List<Integer> found = new ArrayList<>(sets(bits(i -> !st.things.get(i).been)));
        found.removeIf(s -> standing(now | s) != due);
        return what == 0 ? found.size() : found.stream().mapToInt(s -> s).min().orElse(-1);
    }

    public int kinds(int ringer, int v) {
        if (!isRinger(ringer) || !in(v, 0, 99)) {
            return no(-2);
        }
        int sum = 0;
        for (int k = 0; k < 6; k++) {
            sum += slip(k, ringer) == v ? 1 << k : 0;
        }
        return sum;
    }

    /** The first of these by whom a number is least. */
    private int leastBy(int some, ToIntFunction<Integer> number) {
        int found = -1;
        for (int i = 9; i >= 0; i--) {
            if (has(some, i) && (found == -1 || number.applyAsInt(i) <= number.applyAsInt(found))) {
                found = i;
            }
        }
        return found;
    }

    public int worst(int what) {
        if (!in(what, 0, 1)) {
            return no(-2);
        }
        int thing = leastBy(been(), i -> value(been() - (1 << i)));
        return what == 0 || thing == -1 ? thing : value(been() - (1 << thing));
    }

    public int best(int what) {
        if (!in(what, 0, 1)) {
            return no(-2);
        }
        int thing = leastBy(bits(i -> !st.things.get(i).been), i -> -value(been() + (1 << i)));
        return what == 0 || thing == -1 ? thing : value(been() + (1 << thing));
    }

    private int steps(int thing) {
        return st.things.get(thing).on.stream().mapToInt(j -> 1 + steps(j)).max().orElse(0);
    }

    public int depth(int thing) {
        return isThing(thing) ? steps(thing) : no(-2);
    }

    public int ends(int what) {
        if (!in(what, 0, 1)) {
            return no(-2);
        }
        return what == 1 ? bits(i -> st.things.get(i).on.isEmpty())
            : bits(i -> st.things.stream().noneMatch(t -> t.on.contains(i)));
    }

    public int common(int thing, int other) {
        return isThing(thing) && isThing(other) ? bits(i -> leadsTo(thing, i) && leadsTo(other, i)) : no(-2);
    }

    private int ringableIn(int weather) {
        return Integer.bitCount(bits(i -> st.things.get(i).been && open(i) && st.things.get(i).weather == weather));
    }

    public int weatherFor(int what) {
        int weather = leastBy(15, w -> -ringableIn(w));
        return in(what, 0, 1) ? what == 0 ? weather : ringableIn(weather) : no(-2);
    }

    private int shutBy(int bell) {
        return Integer.bitCount(bits(i -> open(i) && i % 8 == bell));
    }

    public int bell(int what) {
        int bell = leastBy(255, b -> -shutBy(b));
        return in(what, 0, 1) ? what == 0 ? bell : shutBy(bell) : no(-2);
    }

    public int pair(int what) {
        if (!in(what, 0, 1)) {
            return no(-2);
        }
        int best = -1;
        int name = -1;
        for (int code = 0; code < 100; code++) {
            int i = code / 10;
            int j = code % 10;
            if (i < j && has(been(), i) && has(been(), j)) {
                int v = value(been() - (1 << i) - (1 << j));
                if (name == -1 || v < best) {
                    best = v;
                    name = code;
                }
            }
        }
        return what == 0 ? name : best;
    }

    public int under(int value) {
        return in(value, 0, 999) ? first(sets(been()), s -> value(been() - s) <= value) : no(-2);
    }

    public int pillar() {
        return leastBy(standing(been()), i -> value(been() - (1 << i)));
    }

    public int ways(int things) {
        if (!areBits(things, count())) {
            return no(-2);
        }
        return (int) sets((1 << count()) - 1).stream().filter(s -> standing(s) == things).count();
    }

    public int oldest(int what) {
        return in(what, 0, 1) ? leastBy(been(), i -> (what == 0 ? -1 : 1) * st.things.get(i).age) : no(-2);
    }

    public int free(int thing) {
        if (!isThing(thing)) {
            return no(-2);
        }
        int was = thingOf(thing, 4);
        st.things.get(thing).on.clear();
        return was;
    }

    public int once(int ringers) {
        if (!areBits(ringers, st.ringers.size())) {
            return no(-2);
        }
        int sum = 0;
        for (int r = 0; r < st.ringers.size(); r++) {
            sum += has(ringers, r) ? slip(r) * wellBy(ringers - (1 << r)) / 100 : 0;
        }
        return sum;
    }

    public int soon(int thing) {
        return isThing(thing) ? until(1 << thing) : no(-2);
    }

    public int inWeather(int weather) {
        return in(weather, 0, 3) ? bits(i -> st.things.get(i).weather == weather) : no(-2);
    }

    private int chainOf(int thing) {
        for (int j : st.things.get(thing).on) {
            if (steps(j) == steps(thing) - 1) {
                return 1 << thing | chainOf(j);
            }
        }
        return 1 << thing;
    }

    public int chain(int thing) {
        return isThing(thing) ? chainOf(thing) : no(-2);
    }

    public int alone(int thing) {
        if (!isThing(thing)) {
            return no(-2);
        }
        int off = offBy(thing);
        return off == 0 || off == 1 << thing ? 1 : 0;
    }

    public int ofKind(int kind) {
        return in(kind, 0, 5) ? (int) st.ringers.stream().filter(r -> r[0] == kind).count() : no(-2);
    }

    private int peal(int s, int n, ToIntFunction<Integer> told) {
        if (!in(s, 0, 7) || !in(n, 0, 40)) {
            return no(-2);
        }
        if (shelves[s] instanceof Integer) {
            return no(-3);
        }
        if (shelves[s] == null) {
            return no(-4);
        }
        long[] row = (long[]) shelves[s];
        if (row.length < n) {
            return no(-2);
        }
        State truth = st;
        st = truth.like();
        int wrong = -1;
        for (int i = 0; i < n && wrong == -1; i++) {
            if (row[i] < 0 || row[i] >= count() || may((int) row[i]) == 0) {
                wrong = i;
            } else {
                ringTruly((int) row[i]);
            }
        }
        int answer = told.applyAsInt(wrong);
        st = truth;
        return answer;
    }

    public int judge(int s, int n) {
        return peal(s, n, wrong -> wrong);
    }

    public int behind(int s, int n, int what) {
        if (!in(what, 0, 1)) {
            return no(-2);
        }
        return peal(s, n, wrong -> wrong != -1 ? no(-5) : what == 0 ? standing(been()) : value(been()));
    }

    public int ring(int thing) {
        if (!isThing(thing)) {
            return no(-2);
        }
        if (may(thing) == 0) {
            return no(-5);
        }
        ringTruly(thing);
        return value(been());
    }

    public int day() {
        st.weather = st.weather == 3 ? 0 : st.weather + 1;
        return st.weather;
    }

    private int draw(int n) {
        st.seed = (int) ((long) st.seed * 1103515245L + 12345L);
        return (int) ((st.seed & 0xFFFFFFFFL) / 65536 % n);
    }

    public int years(int n) {
        if (!in(n, 1, 60)) {
            return no(-2);
        }
        if (count() == 0) {
            return no(-5);
        }
        int rung = 0;
        for (int y = 0; y < n; y++) {
            st.year += st.year < 999 ? 1 : 0;
            for (Thing t : st.things) {
                t.age += t.been && t.age < 99 ? 1 : 0;
            }
            st.weather = draw(4);
            int thing = draw(count());
            if (!st.ringers.isEmpty()) {
                int ringer = draw(st.ringers.size());
                thing = draw(100) < slip(ringer) ? (thing + 1) % count() : thing;
            }
            if (may(thing) != 0) {
                ringTruly(thing);
                rung++;
            }
            int bell = draw(8);
            if (draw(10) == 0) {
                st.cracked.add(bell);
            }
        }
        return rung;
    }

    public int seed(int v) {
        int was = st.seed;
        st.seed = v;
        return was;
    }

    public int image() {
        kept = st.like();
        return 1;
    }

    public int back() {
        if (kept == null) {
            return no(-5);
        }
        st = kept.like();
        for (int s = 0; s < 8; s++) {
            if (shelves[s] instanceof Integer r && !isRinger(r)) {
                shelves[s] = null;
            }
        }
        return 1;
    }

    public int status(int what) {
        int held = 0;
        for (Object o : shelves) {
            held += o == null ? 0 : 1;
        }
        int[] all = {count(), st.ringers.size(), st.weather, st.year, cracks(), value(been()), tape.length(), st.seed,
            held};
        if (in(what, 0, 8)) {
            return all[what];
        }
        return in(what, 12, 16) ? refusals.getOrDefault(10 - what, 0) : -1;
    }
}
