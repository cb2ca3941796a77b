import java.util.Random;

/** Long runs of random calls, the same ones each time; every answer is compared with PlainRiver's. */
public final class RandomRunsTest {
    private static final int RUNS = 1500;
    private static final int CALLS = 512;
    private static final String KINDS = "lomgtrnezlomgtrnezs";

    private final Random random;
    private final RiverModel x = new RiverModel();
    private final PlainRiver y = new PlainRiver();
    private String names = "";

    private static final Checks C = new Checks("RandomRunsTest");
    private static final int[][] ANSWERS = new int[36][2];

    private RandomRunsTest(long seed) {
        random = new Random(seed);
    }

    public static void main(String[] args) {
        int runs = args.length > 0 ? Integer.parseInt(args[0]) : RUNS;
        for (int run = 0; run < runs; run++) {
            RandomRunsTest test = new RandomRunsTest(run);
            test.text(test.land(), run);
            test.due("run " + run + " build", 4, test.x.build(), test.y.build());
            for (int call = 0; call < CALLS; call++) {
                test.call(run);
            }
        }
        for (int call = 1; call < ANSWERS.length; call++) {
            C.due("promise " + (call + 1) + " was met in earnest, and refused", ANSWERS[call][0] > 99 && isRefused(call) ? 1 : 0, 1);
        }
        C.end();
    }

    /** clear() alone is never refused. */
    private static boolean isRefused(int call) {
        return call == 2 || ANSWERS[call][1] > 0;
    }

    private void due(String what, int call, long got, long want) {
        ANSWERS[call][want >= 0 ? 0 : 1]++;
        C.due(what, got, want);
    }

    /** Mostly from least to most, now and then an edge or beyond it. */
    private int some(int least, int most) {
        int dice = random.nextInt(60);
        if (dice == 0) {
            return least - 1;
        }
        if (dice == 1) {
            return most + 1;
        }
        if (dice == 2) {
            return random.nextInt();
        }
        if (dice < 7) {
            return least;
        }
        if (dice < 12) {
            return most;
        }
        return least + random.nextInt(most - least + 1);
    }

    private int small(int most) {
        return random.nextInt(4) == 0 ? random.nextInt(most + 1) : random.nextInt(Math.min(most, 60) + 1);
    }

    private char name() {
        return names.isEmpty() ? 'a' : names.charAt(random.nextInt(names.length()));
    }

    private String store(char name) {
        return "s" + name + "," + small(2000) + "," + small(2000) + ";";
    }

    private String part(char kind) {
        char n = name();
        char m = name();
        for (int k = 0; k < 9 && m == n; k++) {
            m = name();
        }
        return switch (kind) {
            case 'l' -> {
                int q = 1 + random.nextInt(20);
                yield "l" + n + m + "," + random.nextInt(q + 1) + "," + q + "," + small(500) + ";";
            }
            case 'o' -> "o" + n + m + ";";
            case 'm' -> "m" + n + m + "," + small(1000) + ";";
            case 'g' -> "g" + n + m + "," + small(300) + ";";
            case 't' -> "t" + n + m + "," + (1 + random.nextInt(12)) + ";";
            case 'r' -> "r" + n + "," + random.nextInt(101) + ";";
            case 'n' -> "n" + n + "," + random.nextInt(101) + ";";
            case 'e' -> "e" + n + "," + small(1000) + ";";
            case 'z' -> "z" + n + ";";
            default -> store(n);
        };
    }

    private String land() {
        StringBuilder land = new StringBuilder();
        names = "";
        int stores = 1 + random.nextInt(5);
        int parts = random.nextInt(12);
        for (int k = 0; k < stores + parts; k++) {
            if (names.length() < stores && (k < 2 || random.nextInt(3) > 0)) {
                char name = (char) ('a' + random.nextInt(16));
                if (names.indexOf(name) < 0) {
                    land.append(store(name));
                    names += name;
                }
            } else if (names.length() > 1) {
                land.append(part(KINDS.charAt(random.nextInt(18))));
            }
        }
        return marred(land.toString());
    }

    private String marred(String text) {
        if (text.isEmpty() || random.nextInt(8) != 0) {
            return text;
        }
        int at = random.nextInt(text.length());
        String bytes = "slomgtrnezabcp,;0159 \u00ff";
        String more = random.nextInt(3) == 0 ? "" : "" + bytes.charAt(random.nextInt(bytes.length()));
        return text.substring(0, at) + more + text.substring(at + random.nextInt(2));
    }

    private void text(String text, int run) {
        due("run " + run + " clear", 2, x.clear(), y.clear());
        for (int at = 0; at < text.length(); at += 8) {
            int n = Math.min(8, text.length() - at);
            long v = n < 8 ? random.nextLong() : 0;
            for (int k = 0; k < n; k++) {
                v = v << 8 | text.charAt(at + k);
            }
            due("run " + run + " write", 1, x.write(n, v), y.write(n, v));
        }
    }

    private void call(int run) {
        int call = random.nextInt(100);
        if (call < 38) {
            stateCall(run, call);
        } else if (call < 70) {
            askingCall(run, call);
        } else {
            changingCall(run, call);
        }
    }

    private void stateCall(int run, int call) {
        int a = random.nextInt(2) == 0 ? place() : some(0, 15);
        int b = some(0, 1);
        switch (call) {
            case 0 -> due(run + " fault", 3, x.fault(), y.fault());
            case 1, 2 -> {
                int what = some(0, 5);
                int i = item();
                due(run + " item " + i + " " + what, 5, x.item(i, what), y.item(i, what));
            }
            case 3, 4, 5, 6, 7, 8, 9, 10, 11, 12 -> {
                int w = some(0, 1);
                int hour = random.nextBoolean() ? some(0, 95) : some(0, 15);
                int rain = random.nextBoolean() ? some(0, 300) : some(0, 10000);
                int temp = random.nextBoolean() ? some(-4, 8) : some(-30, 40);
                due(run + " weather", 6, x.weather(w, hour, rain, temp), y.weather(w, hour, rain, temp));
            }
            case 13 -> due(run + " anew", 7, x.anew(), y.anew());
            case 14, 15, 16, 17, 18 -> {
                int n = random.nextInt(6) == 0 ? some(1, 96) : some(1, 5);
                due(run + " run " + n, 8, x.run(n), y.run(n));
            }
            case 19, 20, 21, 22, 23 -> due(run + " has " + a + " " + b, 9, x.has(a, b), y.has(a, b));
            case 24, 25, 26, 27 -> {
                int i = item();
                due(run + " flow " + i, 10, x.flow(i), y.flow(i));
            }
            case 28, 29, 30 -> {
                int gate = random.nextInt(3) == 0 ? some(0, 3) : 0;
                int v = some(0, 10);
                due(run + " gate", 11, x.gate(gate, v), y.gate(gate, v));
            }
            case 31, 32, 33, 34 -> {
                int what = some(0, 5);
                due(run + " book " + what, 12, x.book(what), y.book(what));
            }
            case 35 -> {
                int n = some(1, 8);
                long v = random.nextLong();
                due(run + " write", 1, x.write(n, v), y.write(n, v));
            }
            default -> {
                int what = some(0, 8);
                due(run + " count " + what, 35, x.count(what), y.count(what));
            }
        }
    }

    private int place() {
        return names.isEmpty() ? 0 : name() - 'a';
    }

    private int item() {
        return random.nextInt(3) == 0 ? some(0, 39) : some(0, Math.max(1, x.count(1)) - 1);
    }

    private int gaugeNumber() {
        return random.nextInt(4) == 0 ? some(0, 3) : random.nextInt(2);
    }

    private long level() {
        return random.nextInt(10) == 0 ? random.nextLong() : random.nextInt(random.nextBoolean() ? 200 : 3000) - 1;
    }

    private void askingCall(int run, int call) {
        int k = gaugeNumber();
        int n = some(1, 24);
        switch (call) {
            case 38, 39, 40, 41 -> due(run + " reads " + k, 14, x.reads(k), y.reads(k));
            case 42, 43 -> due(run + " fits", 18, x.fits(), y.fits());
            case 44, 45 -> {
                int i = some(0, random.nextInt(3) == 0 ? 40 : 3);
                int j = some(0, 1);
                due(run + " fit " + i + " " + j, 19, x.fit(i, j), y.fit(i, j));
            }
            case 46, 47, 48 -> {
                long level = level();
                due(run + " chance " + level, 23, x.chance(k, n, level), y.chance(k, n, level));
            }
            case 49, 50, 51, 52 -> {
                long level = level();
                int t = some(0, 100);
                due(run + " warn " + level, 24, x.warn(k, n, level, t), y.warn(k, n, level, t));
            }
            case 53, 54 -> {
                int what = some(0, 3);
                due(run + " booked " + what, 25, x.booked(what), y.booked(what));
            }
            case 55, 56, 57 -> {
                int world = some(-1, 3);
                due(run + " peak", 26, x.peak(k, n, world), y.peak(k, n, world));
            }
            case 58 -> bestCall(run, k);
            case 59, 60, 61, 62 -> {
                int hours = some(1, 96) % 30;
                int what = some(0, 1);
                due(run + " swapped", 29, x.swapped(k, hours, what), y.swapped(k, hours, what));
            }
            default -> {
                int h = some(0, random.nextBoolean() ? 95 : 12);
                int part = some(0, 3);
                due(run + " blame " + h + " " + part, 32, x.blame(k, h, part), y.blame(k, h, part));
            }
        }
    }

    private void bestCall(int run, int k) {
        if (random.nextInt(4) != 0) {
            return;
        }
        int gate = random.nextInt(4) == 0 ? some(0, 3) : 0;
        int b = random.nextInt(3) == 0 ? some(1, 6) : 1;
        int store = random.nextInt(8) == 0 ? some(0, 15) : place();
        long limit = level();
        for (int i = -1; i <= 3; i++) {
            due(run + " best " + i, 27, x.best(gate, b, k, store, limit, i), y.best(gate, b, k, store, limit, i));
        }
        int bad = some(-1, 3);
        due(run + " best " + bad, 27, x.best(gate, b, k, store, limit, bad), y.best(gate, b, k, store, limit, bad));
    }

    private void changingCall(int run, int call) {
        int k = gaugeNumber();
        switch (call) {
            case 70, 71, 72, 73 -> {
                int what = some(0, 1);
                int i = what == 0 ? item() : place();
                due(run + " gauge", 13, x.gauge(k, what, i), y.gauge(k, what, i));
            }
            case 74, 75, 76, 77 -> seeCall(run, k);
            case 78 -> {
                int v = random.nextBoolean() ? some(0, 100) : some(0, 100000);
                due(run + " ends", 16, x.ends(v), y.ends(v));
            }
            case 79, 80 -> knobCall(run);
            case 81 -> {
                int i = some(0, 3);
                due(run + " take " + i, 20, x.take(i), y.take(i));
            }
            case 82, 83, 84 -> {
                int world = some(0, 3);
                int w = some(0, 100);
                due(run + " weigh", 21, x.weigh(world, w), y.weigh(world, w));
            }
            case 85, 86, 87, 88 -> {
                int world = some(0, 3);
                int i = random.nextBoolean() ? some(0, 23) : some(0, 5);
                int v = random.nextBoolean() ? some(0, 300) : some(0, 10000);
                due(run + " rain", 22, x.rain(world, i, v), y.rain(world, i, v));
            }
            case 89, 90, 91 -> swapCall(run);
            case 92 -> due(run + " laySwap", 30, x.laySwap(), y.laySwap());
            case 93, 94 -> {
                int store = random.nextInt(4) == 0 ? some(0, 15) : place();
                int v = random.nextBoolean() ? some(0, 300) : some(0, 1000000);
                due(run + " startB", 31, x.startB(store, v), y.startB(store, v));
            }
            case 95, 96 -> due(run + " keep", 33, x.keep(), y.keep());
            case 97 -> due(run + " back", 34, x.back(), y.back());
            default -> buildCall(run);
        }
    }

    private void seeCall(int run, int k) {
        int hour = random.nextInt(3) == 0 ? some(0, 95) : some(0, 9);
        int v = random.nextInt(3) == 0 ? some(-1, 10000000) : some(-1, 40);
        if (random.nextBoolean() && k >= 0 && k < 4 && x.reads(k) >= 0) {
            hour = x.count(4) - 1;
            v = (int) Math.min(10000000, x.reads(k));
        }
        due(run + " see", 15, x.see(k, hour, v), y.see(k, hour, v));
    }

    private void knobCall(int run) {
        int k = some(0, 1);
        int i = item();
        int j = some(0, 2) % 3;
        int from = random.nextInt(3) > 0 ? some(0, 20) : some(0, 1000000);
        int step = random.nextInt(3) > 0 ? some(1, 9) : some(1, 1000000);
        int many = random.nextInt(3) > 0 ? some(0, 4) : some(0, 16);
        due(run + " knob", 17, x.knob(k, i, j, from, step, many), y.knob(k, i, j, from, step, many));
    }

    private void swapCall(int run) {
        int i = item();
        int kind = x.item(i, 0);
        String text = kind < 0 || random.nextInt(4) == 0 ? part(KINDS.charAt(random.nextInt(19)))
            : kind == 's' ? store((char) ('a' + x.item(i, 1)))
            : kind == 'g' ? part('g')
            : part("lomtrnez".charAt(random.nextInt(8)));
        text(marred(text), run);
        due(run + " swap " + text + " for " + i, 28, x.swap(i), y.swap(i));
    }

    private void buildCall(int run) {
        if (random.nextInt(4) != 0) {
            return;
        }
        String before = names;
        text(land(), run);
        due(run + " fault", 3, x.fault(), y.fault());
        int built = x.build();
        due(run + " build", 4, built, y.build());
        if (built < 0) {
            names = before;
        }
    }
}
