/** Edges of worlds: the document's ==== 3, and promises 22 to 28. */
final class EdgesOfWorlds {
    private static final int BAD = RiverModel.BAD, NO = RiverModel.NO, NONE = RiverModel.NONE;
    private static final int LEAST = Integer.MIN_VALUE, MOST = Integer.MAX_VALUE;
    private static final long WRAP = 1L << 32;
    private static final int[] NOT_0_TO_3 = {-1, 4, LEAST, MOST};
    private static final int[] NOT_1_TO_24 = {0, -1, 25, LEAST, MOST};
    private static final long[] NOT_ONE = {NONE, NONE, NONE, NONE, NONE};
    private static final long[] ALL_SHUT = {0, 0, 0, 0, 0};
    // a gauge that reads the gate's flow; the store ahead of the gate has to keep a limit
    private static final String DAM = "sa,0,100;sb,0,0;ra,100;gab,10;";

    private final Checks c;

    EdgesOfWorlds(Checks checks) {
        c = checks;
    }

    void all() {
        weightOfNothing();
        rainAhead();
        hoursAhead();
        tempOfWeatherA();
        aboveALevel();
        levelsFarOff();
        atLeastT();
        weightsOfNone();
        bookedByWhatCame();
        blocks();
        openingsTried();
        limits();
        limitsFarOff();
        endsOfHours();
        lowerBlockByBlock();
        leastOfTheGreatest();
        weighing();
        raining();
        chances();
        warnings();
        bookings();
        peaks();
        peaksAhead();
        bestRefused();
        bestBeyond();
        bestOfWhichGate();
        bestOfWhichGauge();
    }

    /** Its GAUGE 0 reads all RAIN of an HOUR. */
    private static RiverModel rainIn() {
        RiverModel x = Checks.built("sa,0,0;ra,100;za;");
        x.gauge(0, 0, 2);
        return x;
    }

    private static RiverModel dam() {
        RiverModel x = Checks.built(DAM);
        x.gauge(0, 0, 3);
        return x;
    }

    private void weightOfNothing() {
        c.of("Terms", "WORLDS 0 to 3: a WEIGHT (0 to 100; 0 at first: it counts for nothing)");
        RiverModel x = rainIn();
        for (int world = 0; world < 4; world++) {
            x.rain(world, 0, 10000);
        }
        c.due("chance of WEIGHTS at first", x.chance(0, 24, 0), 0);
        c.due("even of what is always so", x.chance(0, 24, -1), 0);
        for (int world = 0; world < 4; world++) {
            x.weigh(world, 1);
            c.due("a WEIGHT of 1", x.chance(0, 1, 0), 1);
            x.weigh(world, 100);
            c.due("a WEIGHT of 100", x.chance(0, 1, 0), 100);
            x.weigh(world, 0);
            c.due("a WEIGHT of 0", x.chance(0, 1, 0), 0);
        }
        for (int world = 0; world < 4; world++) {
            x.weigh(world, 100);
            c.due("WORLDS to " + world, x.chance(0, 1, 0), 100 * (world + 1));
        }
    }

    private void rainAhead() {
        c.of("Terms", "RAIN of 24 HOURS ahead (0 at first)");
        RiverModel x = rainIn();
        for (int world = 0; world < 4; world++) {
            c.due("at first, WORLD " + world, x.peak(0, 24, world), 0);
            for (int i = 0; i < 24; i++) {
                x.rain(world, i, 100 * (world + 1) + i);
            }
        }
        x.run(7);
        for (int world = 0; world < 4; world++) {
            for (int n = 1; n <= 24; n++) {
                c.due("peak(0, " + n + ", " + world + ")", x.peak(0, n, world), 100 * (world + 1) + n - 1);
            }
        }
    }

    private void hoursAhead() {
        c.of("Terms", "FORETOLD for n HOURS (1 to 24, HOUR 95 at most)");
        int[] ns = {1, 2, 23, 24};
        for (int n : ns) {
            RiverModel x = rainIn();
            x.weigh(0, 10);
            x.rain(0, n - 1, 50);
            x.run(96 - n);
            c.due("chance for " + n + " to HOUR 95", x.chance(0, n, 49), 10);
            c.due("warn for " + n + " to HOUR 95", x.warn(0, n, 49, 100), 1);
            c.due("peak for " + n + " to HOUR 95", x.peak(0, n, 0), 50);
            c.due("peak by A for " + n + " to HOUR 95", x.peak(0, n, -1), 0);
            x.run(1);
            c.due("chance for " + n + " to HOUR 96", x.chance(0, n, 49), NO);
            c.due("warn for " + n + " to HOUR 96", x.warn(0, n, 49, 100), NO);
            c.due("peak for " + n + " to HOUR 96", x.peak(0, n, 0), NO);
            c.due("peak by A for " + n + " to HOUR 96", x.peak(0, n, -1), NO);
            c.due("one was booked", x.booked(0) + x.booked(1) + x.booked(2) + x.booked(3), 1);
        }
    }

    private void tempOfWeatherA() {
        c.of("Terms", "in each WORLD THE RUN goes on as a trial with its RAIN, TEMP of WEATHER A");
        RiverModel x = rainIn();
        x.weather(0, 94, 10000, 1);
        x.weather(0, 95, 10000, 0);
        x.weather(1, 94, 0, 0);
        x.weather(1, 95, 0, 1);
        x.rain(2, 0, 7);
        x.rain(2, 1, 9);
        x.run(94);
        c.due("HOUR 94 is warm", x.peak(0, 1, 2), 7);
        c.due("HOUR 95 is not", x.peak(0, 2, 2), 7);
        x.weather(0, 95, 10000, 1);
        c.due("HOUR 95 is warm", x.peak(0, 2, 2), 9);
        c.due("count(4)", x.count(4), 94);
    }

    private void aboveALevel() {
        c.of("Terms", "CHANCE that a GAUGE reads above a LEVEL in one of them: the sum of WEIGHTS of those WORLDS");
        RiverModel x = rainIn();
        x.weigh(0, 1);
        x.weigh(1, 10);
        x.weigh(2, 100);
        x.rain(0, 0, 50);
        x.rain(1, 1, 51);
        x.rain(2, 2, 52);
        x.rain(3, 0, 10000);
        long[][] wants = {{1, -1, 111}, {1, 0, 1}, {1, 49, 1}, {1, 50, 0}, {2, 49, 11}, {2, 50, 10}, {2, 51, 0},
            {3, 49, 111}, {3, 50, 110}, {3, 51, 100}, {3, 52, 0}, {24, 51, 100}, {24, 52, 0}};
        for (long[] a : wants) {
            c.due("chance(0, " + a[0] + ", " + a[1] + ")", x.chance(0, (int) a[0], a[1]), a[2]);
        }
    }

    private void levelsFarOff() {
        c.of("Terms", "reads above a LEVEL");
        RiverModel x = rainIn();
        x.weigh(0, 5);
        x.rain(0, 0, 50);
        c.due("least", x.chance(0, 1, Long.MIN_VALUE), 5);
        c.due("greatest", x.chance(0, 1, Long.MAX_VALUE), 0);
        c.due("a wrap above", x.chance(0, 1, WRAP), 0);
        c.due("a wrap below", x.chance(0, 1, 100 - WRAP), 5);
        c.due("warn: least", x.warn(0, 1, Long.MIN_VALUE, 100), 1);
        c.due("RIGHT", x.booked(0), 1);
        c.due("warn: greatest", x.warn(0, 1, Long.MAX_VALUE, 1), 0);
        c.due("QUIET", x.booked(3), 1);
        c.due("warn: a wrap above", x.warn(0, 1, WRAP, 1), 0);
        c.due("QUIET", x.booked(3), 2);
    }

    private void given(int weightSo, int weightOther, int t, int want) {
        RiverModel x = rainIn();
        x.weigh(0, weightSo);
        x.weigh(3, weightOther);
        x.rain(0, 0, 50);
        c.due(weightSo + " of " + (weightSo + weightOther) + ", T " + t, x.warn(0, 1, 0, t), want);
    }

    private void atLeastT() {
        c.of("Terms", "A WARNING is given, if CHANCE times 100 is at least T (0 to 100) times all WEIGHTS");
        given(1, 2, 33, 1);
        given(1, 2, 34, 0);
        given(1, 1, 49, 1);
        given(1, 1, 50, 1);
        given(1, 1, 51, 0);
        given(0, 100, 0, 1);
        given(0, 100, 1, 0);
        given(1, 99, 1, 1);
        given(1, 100, 1, 0);
        given(99, 1, 99, 1);
        given(99, 1, 100, 0);
        given(100, 0, 100, 1);
        given(100, 100, 50, 1);
        given(100, 100, 51, 0);
        RiverModel x = rainIn();
        for (int world = 0; world < 4; world++) {
            x.weigh(world, 100);
            x.rain(world, 0, 1);
        }
        c.due("400 of 400, T 100", x.warn(0, 1, 0, 100), 1);
        x.rain(3, 0, 0);
        c.due("300 of 400, T 75", x.warn(0, 1, 0, 75), 1);
        c.due("300 of 400, T 76", x.warn(0, 1, 0, 76), 0);
    }

    private void weightsOfNone() {
        c.of("Terms", "CHANCE times 100 is at least T (0 to 100) times all WEIGHTS");
        given(0, 0, 0, 1);
        given(0, 0, 1, 1);
        given(0, 0, 100, 1);
    }

    private void bookedByWhatCame() {
        c.of("Terms", "Each one asked for is BOOKED by whether it was given, and whether by WEATHER A it is so: RIGHT, FALSE, MISSED, QUIET.");
        RiverModel x = rainIn();
        x.weigh(0, 1);
        x.rain(0, 0, 100);
        x.weather(0, 1, 60, 10);
        x.weather(1, 0, 10000, 10);
        // n, level, t, given, what is booked
        int[][] asked = {{2, 59, 1, 1, 0}, {1, 59, 1, 1, 1}, {2, 60, 1, 1, 1}, {2, 99, 1, 1, 1}, {2, 100, 1, 0, 3}, {2, 100, 0, 1, 1},
            {1, 100, 1, 0, 3}, {1, -1, 100, 1, 0}};
        int[] wants = new int[4];
        for (int[] a : asked) {
            c.due("warn(0, " + a[0] + ", " + a[1] + ", " + a[2] + ")", x.warn(0, a[0], a[1], a[2]), a[3]);
            wants[a[4]]++;
            for (int what = 0; what < 4; what++) {
                c.due("booked(" + what + ") then", x.booked(what), wants[what]);
            }
        }
        x.rain(0, 0, 0);
        c.due("not given", x.warn(0, 2, 59, 1), 0);
        c.due("MISSED", x.booked(2), 1);
        c.due("not given", x.warn(0, 2, 60, 1), 0);
        c.due("not MISSED", x.booked(2), 1);
        c.due("QUIET", x.booked(3), 3);
    }

    private void best(RiverModel x, int b, long limit, long... wants) {
        for (int i = -1; i < 4; i++) {
            c.due("best(0, " + b + ", 0, 0, " + limit + ", " + i + ")", x.best(0, b, 0, 0, limit, i), wants[i + 1]);
        }
    }

    private void blocks() {
        c.of("Terms", "THE BEST OPENINGS of a GATE for 4 blocks of b HOURS (1 to 6) ahead");
        for (int b = 1; b <= 6; b++) {
            int last = 4 * b - 1;
            RiverModel x = dam();
            x.weather(0, last + 1, 10000, 10);
            best(x, b, 100, ALL_SHUT);
            // 100 have to be gone at the end of the last HOUR; where 20 an HOUR are too few, 40 are not
            x.weather(0, last + 1, 0, 10);
            x.weather(0, last, 100, 10);
            long[][] wants = {{40, 0, 2, 4, 4}, {20, 0, 2, 2, 2}, {20, 0, 0, 2, 2}, {20, 0, 0, 2, 2}, {20, 0, 0, 0, 2}, {20, 0, 0, 0, 2}};
            best(x, b, 100, wants[b - 1]);
        }
    }

    private void openingsTried() {
        c.of("Terms", "of 0, 2, 4, 6, 8, 10 in each, by WEATHER A");
        for (int opening = 0; opening <= 10; opening += 2) {
            RiverModel x = dam();
            best(x, 1, 100 - 10 * opening, 10 * opening, opening, 0, 0, 0);
            if (opening > 0) {
                best(x, 1, 109 - 10 * opening, 10 * opening, opening, 0, 0, 0);
                best(x, 1, 119 - 10 * opening, 10 * opening, opening, 0, 0, 0);
            }
        }
        RiverModel x = dam();
        x.weather(1, 0, 10000, 10);
        best(x, 1, 100, ALL_SHUT);
        x.weather(0, 0, 1, 10);
        best(x, 1, 100, 20, 2, 0, 0, 0);
    }

    private void limits() {
        c.of("Terms", "those by which no end of an HOUR has a STORE above a limit");
        RiverModel x = dam();
        best(x, 1, 100, ALL_SHUT);
        best(x, 1, 99, 20, 2, 0, 0, 0);
        best(x, 1, 1, 100, 10, 0, 0, 0);
        best(x, 1, 0, 100, 10, 0, 0, 0);
        best(x, 1, -1, NOT_ONE);
        // 101 at most go in one HOUR; the first end of an HOUR keeps no lower limit
        RiverModel y = Checks.built("sa,0,101;sb,0,0;ra,100;gab,10;");
        y.gauge(0, 0, 3);
        best(y, 1, 1, 100, 10, 0, 0, 0);
        best(y, 1, 0, NOT_ONE);
        c.due("another STORE's limit", y.best(0, 1, 0, 1, 0, -1), 0);
        c.due("another STORE's limit", y.best(0, 1, 0, 1, -1, -1), NONE);
    }

    private void limitsFarOff() {
        c.of("Promise 28", "NONE: none keeps the limit");
        best(dam(), 1, Long.MAX_VALUE, ALL_SHUT);
        best(dam(), 1, Long.MIN_VALUE, NOT_ONE);
        best(dam(), 1, WRAP, ALL_SHUT);
        best(dam(), 1, 200 - WRAP, NOT_ONE);
    }

    private void endsOfHours() {
        c.of("Terms", "no end of an HOUR has a STORE above a limit");
        // b has 100 within the HOUR, but 0 at its end
        RiverModel x = Checks.built("sa,0,100;sb,0,0;gab,10;zb;");
        x.gauge(0, 1, 0);
        c.due("within an HOUR", x.best(0, 1, 0, 1, 0, -1), 0);
        c.due("within an HOUR", x.best(0, 1, 0, 1, 0, 0), 10);
        // what is above ahead of all HOURS is none of their ends
        RiverModel y = dam();
        c.due("ahead of the first", y.best(0, 1, 0, 0, 50, 0), 6);
        RiverModel z = Checks.built("sa,0,0;sb,0,0;ra,100;gab,10;za;");
        z.gauge(0, 0, 3);
        z.weather(0, 1, 100, 10);
        c.due("nothing stays", z.best(0, 3, 0, 0, 0, -1), 0);
        // the second HOUR of a block has it at its end, though the first and the last have not
        RiverModel v = Checks.built("sa,0,0;sb,0,0;za;ra,100;gab,10;");
        v.gauge(0, 0, 4);
        v.weather(0, 1, 100, 10);
        c.due("the middle one of three", v.best(0, 3, 0, 0, 99, 0), 2);
        c.due("the middle one of three", v.best(0, 3, 0, 0, 100, 0), 0);
    }

    private void lowerBlockByBlock() {
        c.of("Terms", "of several those that are lower, block by block");
        // the gauge reads a store that no opening changes
        RiverModel x = Checks.built("sa,0,100;sb,0,0;gab,1;sc,0,9;");
        x.gauge(0, 1, 2);
        best(x, 1, 100, 9, 0, 0, 0, 0);
        best(x, 1, 99, 9, 2, 0, 0, 0);
        // 12 have to go by the end of the fourth HOUR: 0, 0, 2, 10 is lower than 0, 0, 4, 8 and 2, 2, 4, 4
        RiverModel y = Checks.built("sa,0,100;sb,0,0;ra,100;gab,1;sc,0,9;");
        y.gauge(0, 1, 2);
        y.weather(0, 3, 12, 10);
        best(y, 1, 100, 9, 0, 0, 2, 10);
        y.weather(0, 3, 40, 10);
        best(y, 1, 100, 9, 10, 10, 10, 10);
        y.weather(0, 3, 41, 10);
        best(y, 1, 100, NOT_ONE);
    }

    private void leastOfTheGreatest() {
        c.of("Terms", "the greatest reading of a GAUGE is least");
        RiverModel x = dam();
        x.weather(0, 3, 60, 10);
        best(x, 1, 100, 20, 0, 2, 2, 2);
        x.weather(0, 3, 61, 10);
        best(x, 1, 100, 20, 2, 2, 2, 2);
        x.weather(0, 3, 80, 10);
        best(x, 1, 100, 20, 2, 2, 2, 2);
        x.weather(0, 3, 81, 10);
        best(x, 1, 100, 40, 0, 2, 4, 4);
    }

    private void weighing() {
        c.of("Promise 22", "WEIGHT of a WORLD: what it was. BAD.");
        RiverModel x = new RiverModel();
        for (int world = 0; world < 4; world++) {
            c.due("weigh(" + world + ", 100)", x.weigh(world, 100), 0);
            c.due("weigh(" + world + ", 0)", x.weigh(world, 0), 100);
            c.due("weigh(" + world + ", " + (world + 1) + ")", x.weigh(world, world + 1), 0);
        }
        int[] weights = {-1, 101, LEAST, MOST};
        for (int k = 0; k < 4; k++) {
            c.due("weigh(" + NOT_0_TO_3[k] + ", 5)", x.weigh(NOT_0_TO_3[k], 5), BAD);
            c.due("weigh(0, " + weights[k] + ")", x.weigh(0, weights[k]), BAD);
            c.due("weigh(3, " + weights[k] + ")", x.weigh(3, weights[k]), BAD);
        }
        for (int world = 0; world < 4; world++) {
            c.due("as it was", x.weigh(world, 0), world + 1);
        }
    }

    private void raining() {
        c.of("Promise 23", "RAIN of a WORLD in HOUR i ahead (0 to 23): what it was. BAD.");
        RiverModel x = new RiverModel();
        int[][] told = {{0, 0}, {0, 23}, {3, 0}, {3, 23}};
        for (int[] a : told) {
            String call = "rain(" + a[0] + ", " + a[1] + ", ";
            c.due(call + "10000)", x.rain(a[0], a[1], 10000), 0);
            c.due(call + "0)", x.rain(a[0], a[1], 0), 10000);
            c.due(call + "7)", x.rain(a[0], a[1], 7), 0);
        }
        int[] is = {-1, 24, LEAST, MOST};
        int[] vs = {-1, 10001, LEAST, MOST};
        for (int k = 0; k < 4; k++) {
            c.due("rain(" + NOT_0_TO_3[k] + ", 0, 5)", x.rain(NOT_0_TO_3[k], 0, 5), BAD);
            c.due("rain(0, " + is[k] + ", 5)", x.rain(0, is[k], 5), BAD);
            c.due("rain(3, " + is[k] + ", 5)", x.rain(3, is[k], 5), BAD);
            c.due("rain(0, 0, " + vs[k] + ")", x.rain(0, 0, vs[k]), BAD);
            c.due("rain(3, 23, " + vs[k] + ")", x.rain(3, 23, vs[k]), BAD);
        }
        for (int world = 0; world < 4; world++) {
            for (int i = 0; i < 24; i++) {
                int want = world % 3 == 0 && i % 23 == 0 ? 7 : 0;
                c.due("rain(" + world + ", " + i + ", 0): as it was", x.rain(world, i, 0), want);
            }
        }
    }

    private void chances() {
        c.of("Promise 24", "CHANCE. BAD; NO: no MODEL, the GAUGE is not set, beyond HOUR 95.");
        RiverModel x = rainIn();
        RiverModel none = new RiverModel();
        for (int k : NOT_0_TO_3) {
            c.due("chance(" + k + ", 1, 0)", x.chance(k, 1, 0), BAD);
            c.due("chance(" + k + ", 1, 0) of no MODEL", none.chance(k, 1, 0), BAD);
        }
        for (int n : NOT_1_TO_24) {
            c.due("chance(0, " + n + ", 0)", x.chance(0, n, 0), BAD);
            c.due("chance(1, " + n + ", 0), not set", x.chance(1, n, 0), BAD);
            c.due("chance(0, " + n + ", 0) of no MODEL", none.chance(0, n, 0), BAD);
        }
        c.due("chance(0, 1, 0)", x.chance(0, 1, 0), 0);
        c.due("chance(0, 24, 0)", x.chance(0, 24, 0), 0);
        for (int k = 1; k < 4; k++) {
            c.due("chance(" + k + ", 1, 0), not set", x.chance(k, 1, 0), NO);
        }
        c.due("chance(0, 1, 0) of no MODEL", none.chance(0, 1, 0), NO);
        c.due("chance(3, 24, 0) of no MODEL", none.chance(3, 24, 0), NO);
        x.run(96);
        c.due("chance(0, 1, 0) at the end", x.chance(0, 1, 0), NO);
        c.due("chance(0, 25, 0) at the end", x.chance(0, 25, 0), BAD);
    }

    private void warnings() {
        c.of("Promise 25", "A WARNING: 1 given, 0 not. BAD; NO likewise. It is BOOKED.");
        RiverModel x = rainIn();
        RiverModel none = new RiverModel();
        for (int k : NOT_0_TO_3) {
            c.due("warn(" + k + ", 1, 0, 0)", x.warn(k, 1, 0, 0), BAD);
            c.due("warn(" + k + ", 1, 0, 0) of no MODEL", none.warn(k, 1, 0, 0), BAD);
        }
        for (int n : NOT_1_TO_24) {
            c.due("warn(0, " + n + ", 0, 0)", x.warn(0, n, 0, 0), BAD);
            c.due("warn(0, " + n + ", 0, 0) of no MODEL", none.warn(0, n, 0, 0), BAD);
        }
        int[] ts = {-1, 101, LEAST, MOST};
        for (int t : ts) {
            c.due("warn(0, 1, 0, " + t + ")", x.warn(0, 1, 0, t), BAD);
            c.due("warn(1, 1, 0, " + t + "), not set", x.warn(1, 1, 0, t), BAD);
            c.due("warn(0, 1, 0, " + t + ") of no MODEL", none.warn(0, 1, 0, t), BAD);
        }
        for (int k = 1; k < 4; k++) {
            c.due("warn(" + k + ", 1, 0, 0), not set", x.warn(k, 1, 0, 0), NO);
        }
        c.due("warn(0, 1, 0, 0) of no MODEL", none.warn(0, 1, 0, 0), NO);
        for (int what = 0; what < 4; what++) {
            c.due("refused: booked(" + what + ")", x.booked(what) + none.booked(what), 0);
        }
        x.weigh(0, 1);
        c.due("warn(0, 1, 0, 0)", x.warn(0, 1, 0, 0), 1);
        c.due("warn(0, 24, 0, 100)", x.warn(0, 24, 0, 100), 0);
        c.due("booked(1)", x.booked(1), 1);
        c.due("booked(3)", x.booked(3), 1);
        x.run(96);
        c.due("warn(0, 1, 0, 0) at the end", x.warn(0, 1, 0, 0), NO);
        c.due("warn(0, 1, 0, 101) at the end", x.warn(0, 1, 0, 101), BAD);
        c.due("booked(1)", x.booked(1), 1);
    }

    private void bookings() {
        c.of("Promise 26", "BOOKED: 0 RIGHT, 1 FALSE, 2 MISSED, 3 QUIET. BAD.");
        RiverModel x = rainIn();
        for (int what = 0; what < 4; what++) {
            c.due("booked(" + what + ") at first", x.booked(what), 0);
        }
        int[] bad = {-1, 4, LEAST, MOST};
        for (int what : bad) {
            c.due("booked(" + what + ")", x.booked(what), BAD);
            c.due("booked(" + what + ") of no MODEL", new RiverModel().booked(what), BAD);
        }
        x.weigh(0, 1);
        x.weather(0, 0, 1, 10);
        for (int k = 0; k < 100; k++) {
            x.warn(0, 1, 0, k < 60 ? 1 : 0);
        }
        c.due("MISSED", x.booked(2), 60);
        c.due("RIGHT", x.booked(0), 40);
        x.anew();
        c.due("the book stays", x.booked(2), 60);
    }

    private void peaks() {
        c.of("Promise 27", "The greatest reading of a GAUGE in n HOURS ahead by WORLD w (-1: WEATHER A). BAD; NO likewise.");
        RiverModel x = rainIn();
        RiverModel none = new RiverModel();
        for (int k : NOT_0_TO_3) {
            c.due("peak(" + k + ", 1, 0)", x.peak(k, 1, 0), BAD);
            c.due("peak(" + k + ", 1, 0) of no MODEL", none.peak(k, 1, 0), BAD);
        }
        for (int n : NOT_1_TO_24) {
            c.due("peak(0, " + n + ", -1)", x.peak(0, n, -1), BAD);
            c.due("peak(0, " + n + ", -1) of no MODEL", none.peak(0, n, -1), BAD);
        }
        int[] worlds = {-2, 4, LEAST, MOST};
        for (int world : worlds) {
            c.due("peak(0, 1, " + world + ")", x.peak(0, 1, world), BAD);
            c.due("peak(1, 1, " + world + "), not set", x.peak(1, 1, world), BAD);
            c.due("peak(0, 1, " + world + ") of no MODEL", none.peak(0, 1, world), BAD);
        }
        for (int world = -1; world < 4; world++) {
            c.due("peak(0, 1, " + world + ")", x.peak(0, 1, world), 0);
            c.due("peak(0, 24, " + world + ")", x.peak(0, 24, world), 0);
            c.due("peak(1, 1, " + world + "), not set", x.peak(1, 1, world), NO);
            c.due("peak(3, 24, " + world + ") of no MODEL", none.peak(3, 24, world), NO);
        }
        x.run(96);
        c.due("peak(0, 1, -1) at the end", x.peak(0, 1, -1), NO);
        c.due("peak(0, 1, 4) at the end", x.peak(0, 1, 4), BAD);
    }

    private void peaksAhead() {
        c.of("Promise 27", "The greatest reading of a GAUGE in n HOURS ahead");
        RiverModel x = rainIn();
        int[] rains = {900, 5, 7, 6, 800};
        for (int hour = 0; hour < rains.length; hour++) {
            x.weather(0, hour, rains[hour], 10);
            x.weather(1, hour, 10000, 10);
        }
        x.run(1);
        long[] wants = {5, 7, 7, 800, 800};
        for (int n = 1; n <= 5; n++) {
            c.due("peak(0, " + n + ", -1), and not what was", x.peak(0, n, -1), wants[n - 1]);
        }
        x.run(70);
        x.weather(0, 94, 3, 10);
        x.weather(0, 95, 4, 10);
        c.due("peak(0, 24, -1) to HOUR 94", x.peak(0, 24, -1), 3);
        x.run(1);
        c.due("peak(0, 24, -1) to HOUR 95", x.peak(0, 24, -1), 4);
    }

    private void bestRefused() {
        c.of("Promise 28", "THE BEST OPENINGS: of block i (0 to 3), the greatest reading (i = -1). NONE: none keeps the limit; BAD; NO: likewise");
        int[] fine = {0, 1, 0, 0, 0};
        int[][] others = {{-1, 4, LEAST, MOST}, {0, 7, LEAST, MOST}, {-1, 4, LEAST, MOST}, {-1, 16, LEAST, MOST}, {-2, 4, LEAST, MOST}};
        // the limit is one that none keeps, so that BAD and NO are seen to come ahead of NONE
        for (int place = 0; place < 5; place++) {
            for (int other : others[place]) {
                int[] a = fine.clone();
                a[place] = other;
                String call = "best(" + a[0] + ", " + a[1] + ", " + a[2] + ", " + a[3] + ", -1, " + a[4] + ")";
                c.due(call, dam().best(a[0], a[1], a[2], a[3], -1, a[4]), BAD);
                c.due(call + " of no MODEL", new RiverModel().best(a[0], a[1], a[2], a[3], -1, a[4]), BAD);
                c.due(call + " of no GATE", rainIn().best(a[0], a[1], a[2], a[3], -1, a[4]), BAD);
            }
        }
        for (int i = -1; i < 4; i++) {
            c.due("none keeps it, i " + i, dam().best(0, 1, 0, 0, -1, i), NONE);
            c.due("GATE 1 of one, i " + i, dam().best(1, 1, 0, 0, -1, i), NO);
            c.due("GATE 3 of one, i " + i, dam().best(3, 1, 0, 0, -1, i), NO);
            c.due("GAUGE 1 is not set, i " + i, dam().best(0, 1, 1, 0, -1, i), NO);
            c.due("GAUGE 3 is not set, i " + i, dam().best(0, 1, 3, 0, -1, i), NO);
            c.due("STORE 2 of two, i " + i, dam().best(0, 1, 0, 2, -1, i), NO);
            c.due("STORE 15 of two, i " + i, dam().best(0, 1, 0, 15, -1, i), NO);
            c.due("of no MODEL, i " + i, new RiverModel().best(0, 6, 3, 15, -1, i), NO);
            c.due("of no GATE, i " + i, rainIn().best(0, 1, 0, 0, 0, i), NO);
        }
    }

    private void bestBeyond() {
        c.of("Promise 28", "4 b HOURS beyond HOUR 95");
        for (int b = 1; b <= 6; b++) {
            RiverModel x = dam();
            x.gate(0, 0);
            x.run(96 - 4 * b);
            best(x, b, 100, ALL_SHUT);
            best(x, b, -1, NOT_ONE);
            x.run(1);
            best(x, b, 100, NO, NO, NO, NO, NO);
            best(x, b, -1, NO, NO, NO, NO, NO);
            c.due("block 4", x.best(0, b, 0, 0, 100, 4), BAD);
        }
    }

    private void bestOfWhichGate() {
        c.of("Promise 28", "THE BEST OPENINGS: of block i (0 to 3), the greatest reading (i = -1).");
        for (int gate = 0; gate < 4; gate++) {
            RiverModel x = Checks.built("sa,0,100;sb,0,0;gab,1;gab,1;gab,1;gab,1;");
            x.gauge(0, 1, 1);
            int open = 0;
            for (int k = 0; k < 4; k++) {
                x.gate(k, k == gate ? 9 : k + 1);
                open += k == gate ? 0 : k + 1;
            }
            // b is to have least, so the GATE is shut; the others go on as they are in THE RUN
            c.due("best of GATE " + gate, x.best(gate, 1, 0, 0, 1000, -1), 4 * open);
            c.due("best of GATE " + gate, x.best(gate, 1, 0, 0, 1000, 0), 0);
            c.due("the first HOUR's limit", x.best(gate, 1, 0, 0, 90 - open, 0), 10);
            for (int k = 0; k < 4; k++) {
                c.due("OPENINGS stay", x.gate(k, 0), k == gate ? 9 : k + 1);
            }
        }
    }

    private void bestOfWhichGauge() {
        c.of("Terms", "the greatest reading of a GAUGE is least");
        RiverModel x = Checks.built(DAM);
        x.gauge(0, 0, 3);
        x.gauge(1, 1, 0);
        x.gauge(3, 1, 1);
        long[][] wants = {{0, 0}, {0, 10}, {NO, NO}, {0, 0}};
        for (int k = 0; k < 4; k++) {
            c.due("the greatest reading of GAUGE " + k, x.best(0, 1, k, 0, 100, -1), wants[k][0]);
            c.due("block 0 of GAUGE " + k, x.best(0, 1, k, 0, 100, 0), wants[k][1]);
        }
        c.due("GAUGE 3 within a limit", x.best(0, 1, 3, 0, 50, -1), 60);
        c.due("GAUGE 0 within a limit", x.best(0, 1, 0, 0, 50, -1), 60);
        c.due("GAUGE 1 within a limit", x.best(0, 1, 1, 0, 50, -1), 0);
    }
}
