import java.util.ArrayList;
import java.util.Arrays;
import java.util.HashMap;
import java.util.List;
import java.util.Map;
import java.util.TreeMap;
import java.util.regex.Matcher;
import java.util.regex.Pattern;

/**
 * The document a second time, as plainly as it can be said and without a thought of cost: texts are matched by expressions, every trial
 * copies what it needs, the best openings are all tried. It is what RandomRunsTest compares RiverModel with.
 */
final class PlainRiver {
    private static final int BAD = -1, NO = -2, FULL = -3, NONE = -4;
    private static final Pattern ITEM = Pattern.compile(
        "(?:s([a-p])()|([lomgt])([a-p])([a-p])|([rnez])([a-p]))((?:,[0-9]{1,7})*)");
    private static final Map<Character, Integer> NUMBERS = Map.of(
        's', 2, 'l', 3, 'o', 0, 'm', 1, 'g', 1, 't', 1, 'r', 1, 'n', 1, 'e', 1, 'z', 0);

    /** An ITEM; M is NONE where there is none. */
    record Part(char kind, int n, int m, List<Integer> numbers) {
        boolean numbersFine() {
            if (numbers.size() != NUMBERS.get(kind)) {
                return false;
            }
            return switch (kind) {
                case 's' -> numbers.get(0) <= 1000000 && numbers.get(1) <= 1000000;
                case 'l' -> numbers.get(0) <= numbers.get(1) && numbers.get(1) >= 1 && numbers.get(1) <= 1000 && numbers.get(2) <= 1000000;
                case 'm', 'e' -> numbers.get(0) <= 1000;
                case 'g' -> numbers.get(0) <= 10000;
                case 't' -> numbers.get(0) >= 1 && numbers.get(0) <= 12;
                case 'r', 'n' -> numbers.get(0) <= 100;
                default -> true;
            };
        }
    }

    /** Water that is to come to a STORE in an HOUR. */
    record Wave(int store, int hour, long amount) {
    }

    static final class Run {
        TreeMap<Integer, Long> stores = new TreeMap<>();
        List<Wave> waves = new ArrayList<>();
        int[] openings = {5, 5, 5, 5};
        List<Long> flows = new ArrayList<>();
        long air;
        long sea;
        long rained;
        int hour;

        Run(List<Part> model) {
            for (Part part : model) {
                if (part.kind == 's') {
                    stores.put(part.n, (long) part.numbers.get(1));
                }
            }
        }

        Run(Run from) {
            stores = new TreeMap<>(from.stores);
            waves = new ArrayList<>(from.waves);
            openings = from.openings.clone();
            flows = new ArrayList<>(from.flows);
            air = from.air;
            sea = from.sea;
            rained = from.rained;
            hour = from.hour;
        }

        void step(List<Part> model, int rain, int temp) {
            for (Wave wave : new ArrayList<>(waves)) {
                if (wave.hour == hour) {
                    stores.merge(wave.store, wave.amount, Long::sum);
                    waves.remove(wave);
                }
            }
            flows = new ArrayList<>();
            int gate = 0;
            for (Part part : model) {
                int opening = part.kind == 'g' ? openings[gate++] : 0;
                flows.add(act(part, model, opening, rain, temp));
            }
            hour++;
        }

        private long act(Part part, List<Part> model, int opening, int rain, int temp) {
            if (part.kind == 's') {
                return 0;
            }
            long there = stores.get(part.n);
            long first = part.numbers.isEmpty() ? 0 : part.numbers.get(0);
            long amount = 0;
            switch (part.kind) {
                case 'l' -> amount = there > part.numbers.get(2) ? (there - part.numbers.get(2)) * first / part.numbers.get(1) : 0;
                case 'o' -> {
                    for (Part store : model) {
                        if (store.kind == 's' && store.n == part.n && there > store.numbers.get(0)) {
                            amount = there - store.numbers.get(0);
                        }
                    }
                }
                case 'm' -> amount = temp > 0 ? Math.min(there, temp * first) : 0;
                case 'g' -> amount = Math.min(there, opening * first);
                case 't', 'z' -> amount = there;
                case 'e' -> amount = temp > 0 ? Math.min(there, temp * first / 10) : 0;
                case 'r' -> amount = temp > 0 ? -(rain * first / 100) : 0;
                case 'n' -> amount = temp <= 0 ? -(rain * first / 100) : 0;
                default -> throw new IllegalStateException();
            }
            stores.put(part.n, there - amount);
            switch (part.kind) {
                case 'r', 'n' -> rained -= amount;
                case 'e' -> air += amount;
                case 'z' -> sea += amount;
                case 't' -> waves.add(new Wave(part.m, hour + (int) first, amount));
                default -> stores.merge(part.m, amount, Long::sum);
            }
            return Math.abs(amount);
        }
    }

    private String text = "";
    private List<Part> model = null;
    private List<Part> other = null;
    private Run run = null;
    private final List<Run> kept = new ArrayList<>();
    private final int[][][] sky = new int[2][96][2];
    private final int[][] gauges = new int[4][];
    private final Map<List<Integer>, Integer> seen = new HashMap<>();
    private int ends = 0;
    private final int[][] knobs = new int[2][];
    private final int[] weights = new int[4];
    private final int[][] rains = new int[4][24];
    private final int[] book = new int[4];
    private Map<Integer, Long> startB = new HashMap<>();

    PlainRiver() {
        for (int[][] one : sky) {
            for (int[] hour : one) {
                hour[1] = 10;
            }
        }
    }

    private static boolean in(long v, long least, long most) {
        return v >= least && v <= most;
    }

    // ---- texts

    int write(int n, long v) {
        if (!in(n, 1, 8)) {
            return BAD;
        }
        if (text.length() + n > 400) {
            return FULL;
        }
        String more = "";
        for (int k = 0; k < n; k++) {
            more = (char) (v & 255) + more;
            v >>= 8;
        }
        text += more;
        return text.length();
    }

    int clear() {
        int was = text.length();
        text = "";
        return was;
    }

    private static Part part(String item) {
        Matcher found = ITEM.matcher(item);
        if (!found.matches()) {
            return null;
        }
        List<Integer> numbers = new ArrayList<>();
        String told = found.group(8);
        if (!told.isEmpty()) {
            for (String number : told.substring(1).split(",")) {
                numbers.add(Integer.parseInt(number));
            }
        }
        Part part;
        if (found.group(1) != null) {
            part = new Part('s', found.group(1).charAt(0) - 'a', NONE, numbers);
        } else if (found.group(3) != null) {
            part = new Part(found.group(3).charAt(0), found.group(4).charAt(0) - 'a', found.group(5).charAt(0) - 'a', numbers);
        } else {
            part = new Part(found.group(6).charAt(0), found.group(7).charAt(0) - 'a', NONE, numbers);
        }
        return part.numbersFine() && part.n != part.m ? part : null;
    }

    private static boolean told(List<Part> ahead, int name) {
        return name == NONE || ahead.stream().anyMatch(p -> p.kind == 's' && p.n == name);
    }

    private static long gatesOf(List<Part> parts) {
        return parts.stream().filter(p -> p.kind == 'g').count();
    }

    private int read(List<Part> into) {
        int at = 0;
        while (at < text.length()) {
            int end = text.indexOf(';', at);
            Part part = end < 0 ? null : part(text.substring(at, end));
            boolean fine = part != null && into.size() < 40;
            if (fine && part.kind == 's') {
                fine = !told(into, part.n);
            } else if (fine) {
                fine = told(into, part.n) && told(into, part.m) && (part.kind != 'g' || gatesOf(into) < 4);
            }
            if (!fine) {
                return at;
            }
            into.add(part);
            at = end + 1;
        }
        return NONE;
    }

    int fault() {
        return read(new ArrayList<>());
    }

    int build() {
        List<Part> parts = new ArrayList<>();
        if (read(parts) != NONE || parts.isEmpty()) {
            return NO;
        }
        Arrays.fill(gauges, null);
        Arrays.fill(knobs, null);
        seen.clear();
        become(parts);
        return parts.size();
    }

    private void become(List<Part> parts) {
        model = parts;
        other = null;
        kept.clear();
        run = new Run(model);
        startB = new HashMap<>(run.stores);
    }

    int item(int i, int what) {
        if (!in(i, 0, 39) || !in(what, 0, 5)) {
            return BAD;
        }
        if (noItem(i)) {
            return NO;
        }
        Part part = model.get(i);
        return switch (what) {
            case 0 -> part.kind;
            case 1 -> part.n;
            case 2 -> part.m;
            default -> what - 3 < part.numbers.size() ? part.numbers.get(what - 3) : NONE;
        };
    }

    private boolean noItem(int i) {
        return model == null || i >= model.size();
    }

    private boolean noStore(int store) {
        return model == null || !run.stores.containsKey(store);
    }

    private boolean noGate(int gate) {
        return model == null || gate >= gatesOf(model);
    }

    // ---- weather, runs

    int weather(int w, int hour, int rain, int temp) {
        if (!in(w, 0, 1) || !in(hour, 0, 95) || !in(rain, 0, 10000) || !in(temp, -30, 40)) {
            return BAD;
        }
        sky[w][hour] = new int[] {rain, temp};
        return 0;
    }

    int anew() {
        if (model == null) {
            return NO;
        }
        int were = run.hour;
        run = new Run(model);
        return were;
    }

    int run(int n) {
        if (!in(n, 1, 96)) {
            return BAD;
        }
        if (model == null) {
            return NO;
        }
        if (run.hour + n > 96) {
            return FULL;
        }
        for (int k = 0; k < n; k++) {
            run.step(model, sky[0][run.hour][0], sky[0][run.hour][1]);
        }
        return run.hour;
    }

    long has(int store, int what) {
        if (!in(store, 0, 15) || !in(what, 0, 1)) {
            return BAD;
        }
        if (noStore(store)) {
            return NO;
        }
        return what == 0 ? run.stores.get(store) : run.waves.stream().filter(w -> w.store == store).mapToLong(Wave::amount).sum();
    }

    long flow(int item) {
        if (!in(item, 0, 39)) {
            return BAD;
        }
        return noItem(item) || run.hour == 0 ? NO : run.flows.get(item);
    }

    int gate(int gate, int v) {
        if (!in(gate, 0, 3) || !in(v, 0, 10)) {
            return BAD;
        }
        if (noGate(gate)) {
            return NO;
        }
        int was = run.openings[gate];
        run.openings[gate] = v;
        return was;
    }

    long book(int what) {
        if (!in(what, 0, 5)) {
            return BAD;
        }
        if (model == null) {
            return NO;
        }
        return switch (what) {
            case 0 -> run.rained;
            case 1 -> run.air;
            case 2 -> run.sea;
            case 3 -> run.stores.values().stream().mapToLong(v -> v).sum();
            case 4 -> run.waves.stream().mapToLong(Wave::amount).sum();
            default -> model.stream().filter(p -> p.kind == 's').mapToLong(p -> p.numbers.get(1)).sum();
        };
    }

    // ---- gauges, fits

    int gauge(int k, int what, int i) {
        if (!in(k, 0, 3) || !in(what, 0, 1) || !in(i, 0, what == 0 ? 39 : 15)) {
            return BAD;
        }
        if (what == 0 ? noItem(i) : noStore(i)) {
            return NO;
        }
        gauges[k] = new int[] {what, i};
        seen.keySet().removeIf(key -> key.get(0) == k);
        return 0;
    }

    private long reading(Run of, int k) {
        return gauges[k][0] == 0 ? of.flows.get(gauges[k][1]) : of.stores.get(gauges[k][1]);
    }

    long reads(int k) {
        if (!in(k, 0, 3)) {
            return BAD;
        }
        return gauges[k] == null || run.hour == 0 ? NO : reading(run, k);
    }

    int see(int k, int hour, int v) {
        if (!in(k, 0, 3) || !in(hour, 0, 95) || !in(v, -1, 10000000)) {
            return -100;
        }
        if (gauges[k] == null) {
            return -102;
        }
        Integer was = v < 0 ? seen.remove(List.of(k, hour)) : seen.put(List.of(k, hour), v);
        return was == null ? -1 : was;
    }

    int ends(int v) {
        if (!in(v, 0, 100000)) {
            return BAD;
        }
        int were = ends;
        ends = v;
        return were;
    }

    int knob(int k, int i, int j, int from, int step, int many) {
        if (!in(k, 0, 1) || !in(i, 0, 39) || !in(j, 0, 2) || !in(from, 0, 1000000) || !in(step, 1, 1000000) || !in(many, 0, 16)) {
            return BAD;
        }
        if (noItem(i) || j >= model.get(i).numbers.size()) {
            return NO;
        }
        knobs[k] = many == 0 ? null : new int[] {i, j, from, step, many};
        return 0;
    }

    /** A FIT that HOLDS, with the numbers of both KNOBS. */
    private record Held(List<Part> parts, int[] numbers) {
    }

    private List<Held> held() {
        List<Held> all = new ArrayList<>();
        for (int a = 0; a < (knobs[0] == null ? 1 : knobs[0][4]); a++) {
            for (int b = 0; b < (knobs[1] == null ? 1 : knobs[1][4]); b++) {
                int[] numbers = {knobs[0] == null ? NONE : knobs[0][2] + a * knobs[0][3], knobs[1] == null ? NONE : knobs[1][2] + b * knobs[1][3]};
                List<Part> parts = turned(numbers);
                if (parts != null && holds(parts)) {
                    all.add(new Held(parts, numbers));
                }
            }
        }
        return all;
    }

    private List<Part> turned(int[] turns) {
        List<Part> parts = new ArrayList<>(model);
        for (int k = 0; k < 2; k++) {
            if (knobs[k] != null) {
                Part old = parts.get(knobs[k][0]);
                List<Integer> numbers = new ArrayList<>(old.numbers);
                if (knobs[k][1] >= numbers.size()) {
                    return null;
                }
                numbers.set(knobs[k][1], turns[k]);
                parts.set(knobs[k][0], new Part(old.kind, old.n, old.m, numbers));
            }
        }
        return parts.stream().allMatch(Part::numbersFine) ? parts : null;
    }

    private boolean holds(List<Part> parts) {
        Run trial = new Run(parts);
        boolean fine = true;
        for (int hour = 0; hour < 96 && !seen.isEmpty(); hour++) {
            trial.step(parts, sky[0][hour][0], sky[0][hour][1]);
            for (int k = 0; k < 4; k++) {
                Integer v = seen.get(List.of(k, hour));
                fine &= v == null || Math.abs(v - reading(trial, k)) <= ends;
            }
        }
        return fine;
    }

    int fits() {
        return model == null ? NO : held().size();
    }

    int fit(int i, int k) {
        if (i < 0 || !in(k, 0, 1)) {
            return BAD;
        }
        if (model == null) {
            return NO;
        }
        List<Held> all = held();
        return i >= all.size() || knobs[k] == null ? NONE : all.get(i).numbers[k];
    }

    int take(int i) {
        if (i < 0) {
            return BAD;
        }
        if (model == null) {
            return NO;
        }
        List<Held> all = held();
        if (i >= all.size()) {
            return NONE;
        }
        become(all.get(i).parts);
        return 0;
    }

    // ---- worlds

    int weigh(int world, int w) {
        if (!in(world, 0, 3) || !in(w, 0, 100)) {
            return BAD;
        }
        int was = weights[world];
        weights[world] = w;
        return was;
    }

    int rain(int world, int i, int v) {
        if (!in(world, 0, 3) || !in(i, 0, 23) || !in(v, 0, 10000)) {
            return BAD;
        }
        int was = rains[world][i];
        rains[world][i] = v;
        return was;
    }

    private boolean aheadRefused(int gauge, int n) {
        return model == null || gauges[gauge] == null || run.hour + n > 96;
    }

    private long peakOf(int gauge, int n, int world) {
        Run trial = new Run(run);
        long peak = Long.MIN_VALUE;
        for (int k = 0; k < n; k++) {
            trial.step(model, world < 0 ? sky[0][trial.hour][0] : rains[world][k], sky[0][trial.hour][1]);
            peak = Math.max(peak, reading(trial, gauge));
        }
        return peak;
    }

    int chance(int gauge, int n, long level) {
        if (!in(gauge, 0, 3) || !in(n, 1, 24)) {
            return BAD;
        }
        if (aheadRefused(gauge, n)) {
            return NO;
        }
        int sum = 0;
        for (int world = 0; world < 4; world++) {
            sum += peakOf(gauge, n, world) > level ? weights[world] : 0;
        }
        return sum;
    }

    int warn(int gauge, int n, long level, int t) {
        if (!in(gauge, 0, 3) || !in(n, 1, 24) || !in(t, 0, 100)) {
            return BAD;
        }
        if (aheadRefused(gauge, n)) {
            return NO;
        }
        boolean given = chance(gauge, n, level) * 100 >= t * Arrays.stream(weights).sum();
        boolean so = peakOf(gauge, n, -1) > level;
        book[given && so ? 0 : given ? 1 : so ? 2 : 3]++;
        return given ? 1 : 0;
    }

    int booked(int what) {
        return in(what, 0, 3) ? book[what] : BAD;
    }

    long peak(int gauge, int n, int world) {
        if (!in(gauge, 0, 3) || !in(n, 1, 24) || !in(world, -1, 3)) {
            return BAD;
        }
        return aheadRefused(gauge, n) ? NO : peakOf(gauge, n, world);
    }

    long best(int gate, int b, int gauge, int store, long limit, int i) {
        if (!in(gate, 0, 3) || !in(b, 1, 6) || !in(gauge, 0, 3) || !in(store, 0, 15) || !in(i, -1, 3)) {
            return BAD;
        }
        if (noGate(gate) || noStore(store) || aheadRefused(gauge, 4 * b)) {
            return NO;
        }
        long least = Long.MAX_VALUE;
        int[] found = null;
        for (int code = 0; code < 1296; code++) {
            int[] openings = {code / 216 * 2, code / 36 % 6 * 2, code / 6 % 6 * 2, code % 6 * 2};
            long peak = peakBy(openings, gate, b, gauge, store, limit);
            if (peak < least) {
                least = peak;
                found = openings;
            }
        }
        return found == null ? NONE : i < 0 ? least : found[i];
    }

    private long peakBy(int[] openings, int gate, int b, int gauge, int store, long limit) {
        Run trial = new Run(run);
        long peak = 0;
        for (int hour = 0; hour < 4 * b; hour++) {
            trial.openings[gate] = openings[hour / b];
            trial.step(model, sky[0][trial.hour][0], sky[0][trial.hour][1]);
            if (trial.stores.get(store) > limit) {
                return Long.MAX_VALUE;
            }
            peak = Math.max(peak, reading(trial, gauge));
        }
        return peak;
    }

    // ---- swaps, blames

    int swap(int i) {
        if (!in(i, 0, 39)) {
            return BAD;
        }
        if (noItem(i) || text.indexOf(';') < 0 || text.indexOf(';') != text.length() - 1) {
            return NO;
        }
        Part part = part(text.substring(0, text.length() - 1));
        Part old = model.get(i);
        if (part == null || (part.kind == 'g') != (old.kind == 'g') || (part.kind == 's') != (old.kind == 's')) {
            return NO;
        }
        if (part.kind == 's' ? part.n != old.n : !told(model.subList(0, i), part.n) || !told(model.subList(0, i), part.m)) {
            return NO;
        }
        other = new ArrayList<>(model);
        other.set(i, part);
        return 0;
    }

    private long readingIn(List<Part> by, int w, Map<Integer, Long> start, int gauge, int h) {
        Run trial = new Run(by);
        if (start != null) {
            trial.stores = new TreeMap<>(start);
        }
        for (int hour = 0; hour <= h; hour++) {
            trial.step(by, sky[w][hour][0], sky[w][hour][1]);
        }
        return reading(trial, gauge);
    }

    long swapped(int gauge, int n, int what) {
        if (!in(gauge, 0, 3) || !in(n, 1, 96) || !in(what, 0, 1)) {
            return BAD;
        }
        if (other == null || gauges[gauge] == null) {
            return NO;
        }
        long sum = 0;
        for (int h = 0; h < n; h++) {
            long more = readingIn(other, 0, null, gauge, h) - readingIn(model, 0, null, gauge, h);
            if (more != 0 && what == 0) {
                return h;
            }
            sum += more;
        }
        return what == 0 ? NONE : sum;
    }

    int laySwap() {
        if (other == null) {
            return NO;
        }
        become(other);
        return 0;
    }

    int startB(int store, int v) {
        if (!in(store, 0, 15) || !in(v, 0, 1000000)) {
            return BAD;
        }
        return noStore(store) ? NO : (int) (long) startB.put(store, (long) v);
    }

    long blame(int gauge, int h, int part) {
        if (!in(gauge, 0, 3) || !in(h, 0, 95) || !in(part, 0, 3)) {
            return -1000000000000000000L;
        }
        if (model == null || gauges[gauge] == null) {
            return -1000000000000000001L;
        }
        long r0 = readingIn(model, 0, null, gauge, h);
        long r1 = readingIn(model, 1, null, gauge, h);
        long r2 = readingIn(model, 1, startB, gauge, h);
        long r3 = other == null ? r2 : readingIn(other, 1, startB, gauge, h);
        return new long[] {r1 - r0, r2 - r1, r3 - r2, r3 - r0}[part];
    }

    int keep() {
        if (model == null) {
            return NO;
        }
        if (kept.size() == 3) {
            return FULL;
        }
        kept.add(new Run(run));
        return kept.size();
    }

    int back() {
        if (kept.isEmpty()) {
            return NO;
        }
        run = kept.remove(kept.size() - 1);
        return kept.size();
    }

    int count(int what) {
        boolean none = model == null;
        return switch (what) {
            case 0 -> text.length();
            case 1 -> none ? 0 : model.size();
            case 2 -> none ? 0 : run.stores.size();
            case 3 -> none ? 0 : (int) gatesOf(model);
            case 4 -> none ? 0 : run.hour;
            case 5 -> (knobs[0] == null ? 0 : 1) + (knobs[1] == null ? 0 : 1);
            case 6 -> (int) Arrays.stream(gauges).filter(g -> g != null).count();
            case 7 -> seen.size();
            case 8 -> kept.size();
            default -> BAD;
        };
    }
}
