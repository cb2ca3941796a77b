/** Promises 22 to 28: weigh, rain, chance, warn, booked, peak, best. */
public final class WorldsTest {
    private static final Checks C = new Checks("WorldsTest");
    private static final String RAIN_IN = "sa,0,0;ra,100;za;";

    public static void main(String[] args) {
        weights();
        rains();
        chances();
        beyond();
        temperatures();
        warnings();
        peaks();
        trialsLeaveTheRun();
        bestRefused();
        bestOfAll();
        bestWithinALimit();
        C.end();
    }

    private static void weights() {
        RiverModel x = new RiverModel();
        C.due("weigh(0, 100)", x.weigh(0, 100), 0);
        C.due("weigh(0, 0)", x.weigh(0, 0), 100);
        C.due("weigh(3, 1)", x.weigh(3, 1), 0);
        C.due("weigh(3, 101)", x.weigh(3, 101), RiverModel.BAD);
        C.due("weigh(3, -1)", x.weigh(3, -1), RiverModel.BAD);
        C.due("weigh(4, 1)", x.weigh(4, 1), RiverModel.BAD);
        C.due("weigh(-1, 1)", x.weigh(-1, 1), RiverModel.BAD);
        C.due("weigh(3, 2)", x.weigh(3, 2), 1);
    }

    private static void rains() {
        RiverModel x = new RiverModel();
        C.due("rain(0, 0, 10000)", x.rain(0, 0, 10000), 0);
        C.due("rain(0, 0, 1)", x.rain(0, 0, 1), 10000);
        C.due("rain(3, 23, 2)", x.rain(3, 23, 2), 0);
        C.due("rain(3, 23, 3)", x.rain(3, 23, 3), 2);
        C.due("rain(4, 0, 0)", x.rain(4, 0, 0), RiverModel.BAD);
        C.due("rain(-1, 0, 0)", x.rain(-1, 0, 0), RiverModel.BAD);
        C.due("rain(0, 24, 0)", x.rain(0, 24, 0), RiverModel.BAD);
        C.due("rain(0, -1, 0)", x.rain(0, -1, 0), RiverModel.BAD);
        C.due("rain(0, 0, -1)", x.rain(0, 0, -1), RiverModel.BAD);
        C.due("rain(0, 0, 10001)", x.rain(0, 0, 10001), RiverModel.BAD);
        C.due("rain(0, 0, 0)", x.rain(0, 0, 0), 1);
    }

    private static RiverModel threeWorlds() {
        RiverModel x = Checks.built(RAIN_IN);
        x.gauge(0, 0, 2);
        x.weigh(0, 10);
        x.weigh(1, 30);
        x.weigh(3, 60);
        x.rain(0, 0, 100);
        x.rain(1, 1, 200);
        x.rain(2, 0, 9000);
        x.rain(3, 23, 300);
        return x;
    }

    private static void chances() {
        RiverModel x = new RiverModel();
        C.due("chance without a model", x.chance(0, 1, 0L), RiverModel.NO);
        C.due("bad chance without a model", x.chance(0, 25, 0L), RiverModel.BAD);
        x = threeWorlds();
        C.due("chance(1, 1, 0), not set", x.chance(1, 1, 0L), RiverModel.NO);
        C.due("chance(4, 1, 0)", x.chance(4, 1, 0L), RiverModel.BAD);
        C.due("chance(-1, 1, 0)", x.chance(-1, 1, 0L), RiverModel.BAD);
        C.due("chance(0, 0, 0)", x.chance(0, 0, 0L), RiverModel.BAD);
        C.due("chance(0, 25, 0)", x.chance(0, 25, 0L), RiverModel.BAD);
        C.due("one hour", x.chance(0, 1, 0L), 10);
        C.due("two hours", x.chance(0, 2, 0L), 40);
        C.due("23 hours", x.chance(0, 23, 99L), 40);
        C.due("24 hours", x.chance(0, 24, 99L), 100);
        C.due("above, not at", x.chance(0, 24, 100L), 90);
        C.due("above, not at", x.chance(0, 24, 299L), 60);
        C.due("above, not at", x.chance(0, 24, 300L), 0);
        C.due("any reading is above", x.chance(0, 1, -1L), 100);
        C.due("nothing is above", x.chance(0, 24, Long.MAX_VALUE), 0);
        C.due("all are above", x.chance(0, 24, Long.MIN_VALUE), 100);
    }

    private static void beyond() {
        RiverModel x = threeWorlds();
        x.run(72);
        C.due("to hour 95", x.chance(0, 24, 99L), 100);
        x.run(1);
        C.due("beyond hour 95", x.chance(0, 24, 99L), RiverModel.NO);
        C.due("peak beyond hour 95", x.peak(0, 24, -1), RiverModel.NO);
        C.due("warn beyond hour 95", x.warn(0, 24, 99L, 0), RiverModel.NO);
        C.due("and nothing is booked", x.booked(0) + x.booked(1) + x.booked(2) + x.booked(3), 0);
        C.due("rain counts from now", x.chance(0, 23, 99L), 40);
        x.run(23);
        C.due("no hour ahead", x.chance(0, 1, 0L), RiverModel.NO);
    }

    private static void temperatures() {
        RiverModel x = threeWorlds();
        x.weather(0, 0, 5000, 0);
        C.due("TEMP of weather A: no rain in hour 0", x.chance(0, 1, 0L), 0);
        C.due("hour 1 is warm", x.chance(0, 2, 0L), 30);
    }

    private static void warnings() {
        RiverModel x = new RiverModel();
        C.due("warn without a model", x.warn(0, 1, 0L, 0), RiverModel.NO);
        C.due("booked(-1)", x.booked(-1), RiverModel.BAD);
        C.due("booked(4)", x.booked(4), RiverModel.BAD);
        x = threeWorlds();
        x.weather(0, 1, 150, 10);
        C.due("t", x.warn(0, 1, 0L, 101), RiverModel.BAD);
        C.due("t", x.warn(0, 1, 0L, -1), RiverModel.BAD);
        C.due("n", x.warn(0, 25, 0L, 1), RiverModel.BAD);
        C.due("n", x.warn(0, 0, 0L, 1), RiverModel.BAD);
        C.due("gauge", x.warn(4, 1, 0L, 1), RiverModel.BAD);
        C.due("not set", x.warn(1, 1, 0L, 1), RiverModel.NO);
        C.due("40 of 100 at 40: given, right", x.warn(0, 2, 0L, 40), 1);
        C.due("40 of 100 at 41: missed", x.warn(0, 2, 0L, 41), 0);
        C.due("missed again", x.warn(0, 2, 149L, 100), 0);
        C.due("30 of 100, at 150: false", x.warn(0, 2, 150L, 30), 1);
        C.due("false again", x.warn(0, 2, 199L, 0), 1);
        C.due("false a third time", x.warn(0, 1, 0L, 10), 1);
        C.due("quiet", x.warn(0, 2, 150L, 31), 0);
        C.due("quiet again", x.warn(0, 2, 200L, 1), 0);
        C.due("quiet a third time", x.warn(0, 1, 100L, 1), 0);
        C.due("quiet a fourth time", x.warn(0, 1, 0L, 11), 0);
        int[] wants = {1, 3, 2, 4};
        for (int what = 0; what < 4; what++) {
            C.due("booked(" + what + ")", x.booked(what), wants[what]);
        }
        x.weigh(0, 100);
        x.weigh(1, 100);
        x.weigh(2, 100);
        x.weigh(3, 1);
        C.due("300 of 301 at 100", x.warn(0, 2, 0L, 100), 0);
        C.due("300 of 301 at 99", x.warn(0, 2, 0L, 99), 1);
        C.due("a weight of 1 counts", x.chance(0, 24, 250L), 101);
        RiverModel y = Checks.built(RAIN_IN);
        y.gauge(0, 0, 2);
        C.due("no weights: 0 is at least 0", y.warn(0, 1, 0L, 100), 1);
        C.due("booked as false", y.booked(1), 1);
    }

    private static void peaks() {
        RiverModel x = new RiverModel();
        C.due("peak without a model", x.peak(0, 1, 0), RiverModel.NO);
        x = threeWorlds();
        x.weather(0, 3, 77, 10);
        C.due("peak(0, 1, -2)", x.peak(0, 1, -2), RiverModel.BAD);
        C.due("peak(0, 1, 4)", x.peak(0, 1, 4), RiverModel.BAD);
        C.due("peak(0, 0, 0)", x.peak(0, 0, 0), RiverModel.BAD);
        C.due("peak(0, 25, 0)", x.peak(0, 25, 0), RiverModel.BAD);
        C.due("peak(4, 1, 0)", x.peak(4, 1, 0), RiverModel.BAD);
        C.due("peak(2, 1, 0), not set", x.peak(2, 1, 0), RiverModel.NO);
        C.due("weather A, 3 hours", x.peak(0, 3, -1), 0);
        C.due("weather A, 4 hours", x.peak(0, 4, -1), 77);
        C.due("world 1, one hour", x.peak(0, 1, 1), 0);
        C.due("world 1, two hours", x.peak(0, 2, 1), 200);
        C.due("world 2 without a weight", x.peak(0, 2, 2), 9000);
        C.due("world 3", x.peak(0, 24, 3), 300);
    }

    private static void trialsLeaveTheRun() {
        RiverModel x = Checks.built("sa,0,100;sb,0,0;ra,100;gab,3;tba,2;");
        x.gauge(0, 0, 3);
        x.gauge(1, 1, 0);
        x.weigh(0, 1);
        x.gate(0, 7);
        x.run(1);
        C.due("openings of the run", x.peak(0, 5, 0), 21);
        C.due("what is under way comes", x.peak(1, 3, -1), 58);
        x.chance(0, 9, 5L);
        x.warn(0, 9, 5L, 50);
        x.best(0, 2, 0, 0, 1000L, -1);
        C.due("hours", x.count(4), 1);
        C.due("has(0, 0)", x.has(0, 0), 79);
        C.due("has(0, 1)", x.has(0, 1), 21);
        C.due("the opening", x.gate(0, 7), 7);
        C.due("the flow", x.flow(3), 21);
    }

    private static void bestRefused() {
        RiverModel x = new RiverModel();
        C.due("best without a model", x.best(0, 1, 0, 0, 0L, 0), RiverModel.NO);
        C.due("bad best without a model", x.best(0, 0, 0, 0, 0L, 0), RiverModel.BAD);
        x = Checks.built("sa,0,100;sc,0,0;gac,10;");
        C.due("no gauge is set", x.best(0, 1, 0, 0, 500L, 0), RiverModel.NO);
        x.gauge(0, 0, 2);
        C.due("gate", x.best(4, 1, 0, 0, 500L, 0), RiverModel.BAD);
        C.due("gate", x.best(-1, 1, 0, 0, 500L, 0), RiverModel.BAD);
        C.due("gate", x.best(1, 1, 0, 0, 500L, 0), RiverModel.NO);
        C.due("b", x.best(0, 0, 0, 0, 500L, 0), RiverModel.BAD);
        C.due("b", x.best(0, 7, 0, 0, 500L, 0), RiverModel.BAD);
        C.due("gauge", x.best(0, 1, 4, 0, 500L, 0), RiverModel.BAD);
        C.due("gauge", x.best(0, 1, 1, 0, 500L, 0), RiverModel.NO);
        C.due("store", x.best(0, 1, 0, 16, 500L, 0), RiverModel.BAD);
        C.due("store", x.best(0, 1, 0, -1, 500L, 0), RiverModel.BAD);
        C.due("store", x.best(0, 1, 0, 1, 500L, 0), RiverModel.NO);
        C.due("i", x.best(0, 1, 0, 0, 500L, 4), RiverModel.BAD);
        C.due("i", x.best(0, 1, 0, 0, 500L, -2), RiverModel.BAD);
        C.due("no limit holds", x.best(0, 1, 0, 0, -1L, 0), RiverModel.NONE);
        C.due("as it is", x.best(0, 6, 0, 0, 500L, -1), 0);
        x.run(72);
        C.due("24 hours to hour 95", x.best(0, 6, 0, 0, 500L, -1), 0);
        x.run(1);
        C.due("beyond hour 95", x.best(0, 6, 0, 0, 500L, -1), RiverModel.NO);
        C.due("20 hours", x.best(0, 5, 0, 0, 500L, -1), 0);
        x.run(19);
        C.due("4 hours", x.best(0, 1, 0, 0, 500L, -1), 0);
        x.run(1);
        C.due("4 hours beyond", x.best(0, 1, 0, 0, 500L, -1), RiverModel.NO);
    }

    private static void best(RiverModel x, int b, long limit, long... wants) {
        for (int i = -1; i < 4; i++) {
            C.due("best(0, " + b + ", 0, 0, " + limit + ", " + i + ")", x.best(0, b, 0, 0, limit, i), wants[i + 1]);
        }
    }

    private static void bestOfAll() {
        // the gauge reads store a: 300 come in hour 3 and 100 go then at most, so all has to be gone ahead of it
        RiverModel x = Checks.built("sa,0,100;sb,0,0;ra,100;gab,10;");
        x.gauge(0, 1, 0);
        x.weather(0, 3, 300, 10);
        best(x, 1, 10000L, 200, 0, 0, 10, 10);
        // 250 in hour 0: at least 50 of them go at once, and 250 ahead of hour 3
        x.weather(0, 0, 150, 10);
        best(x, 1, 10000L, 200, 6, 10, 10, 10);
    }

    private static void bestWithinALimit() {
        // the gauge reads the gate's flow: shut is best, but the store has to stay within the limit
        RiverModel x = Checks.built("sa,0,100;sb,0,0;ra,100;gab,10;");
        x.gauge(0, 0, 3);
        for (int hour = 0; hour < 24; hour++) {
            x.weather(0, hour, 30, 10);
        }
        best(x, 1, 1000L, 0, 0, 0, 0, 0);
        best(x, 1, 100L, 40, 4, 2, 4, 2);
        best(x, 1, 110L, 40, 2, 4, 2, 4);
        best(x, 1, 99L, 40, 4, 4, 2, 4);
        best(x, 1, 90L, 40, 4, 4, 2, 4);
        best(x, 1, 29L, RiverModel.NONE, RiverModel.NONE, RiverModel.NONE, RiverModel.NONE, RiverModel.NONE);
        best(x, 2, 200L, 20, 2, 2, 2, 2);
        best(x, 2, 220L, 20, 0, 2, 2, 2);
    }
}
