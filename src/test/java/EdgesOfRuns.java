import java.util.Arrays;

/** Edges of weather and runs: how ITEMS act, WEATHER, A RUN, AN HOUR, and promises 7 to 13. */
final class EdgesOfRuns {
    private static final int BAD = RiverModel.BAD, NO = RiverModel.NO, FULL = RiverModel.FULL;

    private final Checks c;

    EdgesOfRuns(Checks checks) {
        c = checks;
    }

    void all() {
        leaks();
        leaksOfMuch();
        overflows();
        melting();
        gates();
        reachesOfEachLength();
        reachesOfAllStores();
        reachesAtTheEnd();
        reachesTogether();
        rains();
        snows();
        evaporation();
        sea();
        weatherAtFirst();
        weatherOfAllHours();
        runAtFirst();
        anHour();
        runGoesByWeatherA();
        settingWeather();
        beginningAnew();
        running();
        whatStoresHave();
        flows();
        openings();
        booksAtTheEdges();
    }

    /** FLOW of the land's last ITEM in HOUR 0 by that RAIN and TEMP. */
    private void flow(String land, int rain, int temp, long want) {
        RiverModel x = Checks.built(land);
        x.weather(0, 0, rain, temp);
        x.run(1);
        c.due("FLOW by RAIN " + rain + ", TEMP " + temp + " of " + land, x.flow(x.count(1) - 1), want);
        c.due("no water is lost of " + land, x.book(1) + x.book(2) + x.book(3) + x.book(4), x.book(0) + x.book(5));
    }

    private void leak(int has, String numbers, long want) {
        flow("sa,0," + has + ";sb,0,0;lab," + numbers + ";", 0, 10, want);
    }

    private void leaks() {
        c.of("Terms", "if N has more than h, (that less h) times p by q, cut");
        leak(0, "1,1,0", 0);
        leak(1, "1,1,0", 1);
        leak(19, "1,1,20", 0);
        leak(20, "1,1,20", 0);
        leak(21, "1,1,20", 1);
        leak(0, "1,1,1000000", 0);
        leak(26, "1,7,20", 0);
        leak(27, "1,7,20", 1);
        leak(33, "1,7,20", 1);
        leak(34, "1,7,20", 2);
        leak(27, "6,7,20", 6);
        leak(26, "6,7,20", 5);
        leak(21, "6,7,20", 0);
        leak(1000000, "0,1,0", 0);
        leak(1000000, "1,1,0", 1000000);
        leak(1000000, "1000,1000,0", 1000000);
        leak(1000000, "999,1000,0", 999000);
        leak(1000000, "1,1000,0", 1000);
        leak(999, "1,1000,0", 0);
        leak(1000, "1,1000,0", 1);
        leak(1000000, "1,1,999999", 1);
        leak(1000000, "1,1,1000000", 0);
        flow("sa,0,1000000;sb,0,0;ra,100;lab,1,1,1000000;", 1, 10, 1);
        flow("sa,0,50;sb,0,0;lab,1,2,0;", 0, -30, 25);
    }

    private void leaksOfMuch() {
        c.of("Terms", "(that less h) times p by q, cut");
        String land = "sa,0,1000000;sb,0,1000000;sc,0,1000000;sd,0,0;oba;oca;lad,";
        flow(land + "999,1000,0;", 0, 10, 2997000);
        flow(land + "1000,1000,1;", 0, 10, 2999999);
    }

    private void overflows() {
        c.of("Terms", "an OVERFLOW: what N has above its CAPACITY");
        flow("sa,60,0;sb,0,0;oab;", 0, 10, 0);
        flow("sa,60,59;sb,0,0;oab;", 0, 10, 0);
        flow("sa,60,60;sb,0,0;oab;", 0, 10, 0);
        flow("sa,60,61;sb,0,0;oab;", 0, 10, 1);
        flow("sa,0,0;sb,0,0;oab;", 0, 10, 0);
        flow("sa,0,1;sb,0,0;oab;", 0, 10, 1);
        flow("sa,0,1000000;sb,0,0;oab;", 0, 10, 1000000);
        flow("sa,999999,1000000;sb,0,0;oab;", 0, 10, 1);
        flow("sa,1000000,1000000;sb,0,0;oab;", 0, 10, 0);
        flow("sa,1000000,1000000;sb,0,0;ra,100;oab;", 1, 10, 1);
        flow("sa,60,61;sb,0,0;oab;", 0, -30, 1);
        // what is above a CAPACITY stays, if no OVERFLOW takes it
        RiverModel x = Checks.built("sa,5,9;sb,0,0;oab;ra,100;");
        x.weather(0, 0, 100, 10);
        x.run(1);
        c.due("has(0, 0) above its CAPACITY", x.has(0, 0), 105);
    }

    private void melting() {
        c.of("Terms", "MELTING: if TEMP is above 0, TEMP times p, all of N at most");
        String much = "sa,0,1000000;sb,0,0;mab,7;";
        flow(much, 0, -30, 0);
        flow(much, 0, -1, 0);
        flow(much, 0, 0, 0);
        flow(much, 0, 1, 7);
        flow(much, 0, 40, 280);
        flow("sa,0,1000000;sb,0,0;mab,0;", 0, 40, 0);
        flow("sa,0,39999;sb,0,0;mab,1000;", 0, 40, 39999);
        flow("sa,0,40000;sb,0,0;mab,1000;", 0, 40, 40000);
        flow("sa,0,40001;sb,0,0;mab,1000;", 0, 40, 40000);
        flow("sa,0,0;sb,0,0;mab,1000;", 0, 40, 0);
    }

    private void gate(int has, int p, int opening, long want) {
        RiverModel x = Checks.built("sa,0," + has + ";sb,0,0;gab," + p + ";");
        x.weather(0, 0, 0, -30);
        x.gate(0, opening);
        x.run(1);
        c.due("FLOW of gab," + p + " OPENING " + opening + " of " + has, x.flow(2), want);
        c.due("has(1, 0)", x.has(1, 0), want);
    }

    private void gates() {
        c.of("Terms", "a GATE: OPENING times p, all of N at most");
        gate(1000000, 10000, 0, 0);
        gate(1000000, 10000, 1, 10000);
        gate(1000000, 10000, 10, 100000);
        gate(99999, 10000, 10, 99999);
        gate(100000, 10000, 10, 100000);
        gate(100001, 10000, 10, 100000);
        gate(1000000, 0, 10, 0);
        gate(1000000, 1, 9, 9);
        gate(0, 10000, 10, 0);
        gate(1, 1, 1, 1);
    }

    private void reachesOfEachLength() {
        c.of("Terms", "all of N is under way to M, h HOURS (1 to 12)");
        for (int h = 1; h <= 12; h++) {
            RiverModel x = Checks.built("sa,0,0;sb,0,0;ra,100;tab," + h + ";zb;");
            for (int hour = 0; hour < 96; hour++) {
                x.weather(0, hour, 1 + hour * 97 % 1000, 10);
            }
            for (int hour = 0; hour < 96; hour++) {
                x.run(1);
                long want = hour < h ? 0 : 1 + (hour - h) * 97 % 1000;
                c.due("h " + h + ": what comes in HOUR " + hour, x.flow(4), want);
            }
            long underWay = 0;
            for (int hour = 96 - h; hour < 96; hour++) {
                underWay += 1 + hour * 97 % 1000;
            }
            c.due("h " + h + ": under way at the end", x.has(1, 1), underWay);
            c.due("h " + h + ": book(4) at the end", x.book(4), underWay);
        }
    }

    private void reachesOfAllStores() {
        c.of("Promise 13", "4 under way");
        for (int store = 0; store < 16; store += 15) {
            char to = (char) ('a' + store);
            RiverModel x = Checks.built("sb,0,0;s" + to + ",0,0;rb,100;tb" + to + ",12;");
            for (int hour = 0; hour < 96; hour++) {
                x.weather(0, hour, 1 + hour * 13 % 500, 10);
            }
            long underWay = 0;
            for (int hour = 0; hour < 96; hour++) {
                underWay += 1 + hour * 13 % 500 - (hour < 12 ? 0 : 1 + (hour - 12) * 13 % 500);
                x.run(1);
                c.due("book(4) in HOUR " + hour + " to " + to, x.book(4), underWay);
                c.due("has(" + store + ", 1) in HOUR " + hour, x.has(store, 1), underWay);
            }
        }
    }

    private void reachesAtTheEnd() {
        c.of("Terms", "1 what is due comes");
        int[] lengths = {1, 12};
        for (int h : lengths) {
            for (int late = 0; late <= 1; late++) {
                RiverModel x = Checks.built("sa,0,0;sb,0,0;ra,100;tab," + h + ";");
                x.weather(0, 95 - h + late, 50, 10);
                x.run(95);
                c.due("h " + h + ", late " + late + ": has(1, 0) ahead of HOUR 95", x.has(1, 0), 0);
                x.run(1);
                c.due("h " + h + ", late " + late + ": has(1, 0) at the end", x.has(1, 0), late == 0 ? 50 : 0);
                c.due("h " + h + ", late " + late + ": has(1, 1) at the end", x.has(1, 1), late == 0 ? 0 : 50);
            }
        }
    }

    private void reachesTogether() {
        c.of("Terms", "1 what is due comes");
        RiverModel x = Checks.built("sa,0,5;sb,0,7;sc,0,0;tac,2;tbc,1;sd,0,0;lcd,1,1,0;tdc,12;");
        x.run(1);
        c.due("both are under way", x.has(2, 1), 12);
        c.due("nothing of it leaks", x.flow(6), 0);
        x.run(1);
        c.due("the first comes ahead of the ITEMS", x.flow(6), 7);
        c.due("and is under way again with the other", x.has(2, 1), 12);
        x.run(1);
        c.due("the second comes", x.flow(6), 5);
        x.run(10);
        c.due("nothing for ten HOURS", x.has(2, 1), 12);
        x.run(1);
        c.due("the first again", x.flow(6), 7);
        x.run(1);
        c.due("the second again", x.flow(6), 5);
        RiverModel y = Checks.built("sa,0,0;sb,0,0;tab,3;");
        y.run(1);
        c.due("of nothing nothing is under way", y.flow(2) + y.has(1, 1), 0);
    }

    private void rains() {
        c.of("Terms", "RAIN times s by 100, cut, comes to N, if TEMP is above 0");
        flow("sa,0,0;ra,100;", 10000, 1, 10000);
        flow("sa,0,0;ra,100;", 10000, 40, 10000);
        flow("sa,0,0;ra,100;", 10000, 0, 0);
        flow("sa,0,0;ra,100;", 10000, -1, 0);
        flow("sa,0,0;ra,100;", 10000, -30, 0);
        flow("sa,0,0;ra,100;", 0, 10, 0);
        flow("sa,0,0;ra,100;", 1, 10, 1);
        flow("sa,0,0;ra,99;", 1, 10, 0);
        flow("sa,0,0;ra,99;", 2, 10, 1);
        flow("sa,0,0;ra,1;", 99, 10, 0);
        flow("sa,0,0;ra,1;", 100, 10, 1);
        flow("sa,0,0;ra,1;", 199, 10, 1);
        flow("sa,0,0;ra,0;", 10000, 10, 0);
        RiverModel x = Checks.built("sa,0,1000000;ra,100;ra,100;");
        x.weather(0, 0, 10000, 10);
        x.run(1);
        c.due("above 1000000 a STORE may have", x.has(0, 0), 1020000);
        c.due("book(0)", x.book(0), 20000);
    }

    private void snows() {
        c.of("Terms", "likewise, if TEMP is 0 or below");
        flow("sa,0,0;na,100;", 10000, 0, 10000);
        flow("sa,0,0;na,100;", 10000, -1, 10000);
        flow("sa,0,0;na,100;", 10000, -30, 10000);
        flow("sa,0,0;na,100;", 10000, 1, 0);
        flow("sa,0,0;na,100;", 10000, 40, 0);
        flow("sa,0,0;na,100;", 0, -5, 0);
        flow("sa,0,0;na,99;", 1, 0, 0);
        flow("sa,0,0;na,1;", 99, 0, 0);
        flow("sa,0,0;na,1;", 100, 0, 1);
        flow("sa,0,0;na,0;", 10000, 0, 0);
    }

    private void evaporation() {
        c.of("Terms", "EVAPORATION: if TEMP is above 0, TEMP times p by 10, cut, all of N at most, goes to THE AIR");
        flow("sa,0,1000000;ea,1000;", 0, -30, 0);
        flow("sa,0,1000000;ea,1000;", 0, -1, 0);
        flow("sa,0,1000000;ea,1000;", 0, 0, 0);
        flow("sa,0,1000000;ea,1000;", 0, 1, 100);
        flow("sa,0,1000000;ea,9;", 0, 1, 0);
        flow("sa,0,1000000;ea,10;", 0, 1, 1);
        flow("sa,0,1000000;ea,19;", 0, 1, 1);
        flow("sa,0,1000000;ea,0;", 0, 40, 0);
        flow("sa,0,3999;ea,1000;", 0, 40, 3999);
        flow("sa,0,4000;ea,1000;", 0, 40, 4000);
        flow("sa,0,4001;ea,1000;", 0, 40, 4000);
        flow("sa,0,0;ea,1000;", 0, 40, 0);
        RiverModel x = Checks.built("sa,0,4001;ea,1000;");
        x.weather(0, 0, 0, 40);
        x.run(1);
        c.due("book(1)", x.book(1), 4000);
        c.due("has(0, 0)", x.has(0, 0), 1);
        c.due("book(2)", x.book(2), 0);
    }

    private void sea() {
        c.of("Terms", "all of N goes to THE SEA");
        flow("sa,1000000,0;za;", 0, 10, 0);
        flow("sa,1000000,1;za;", 0, 10, 1);
        flow("sa,0,1000000;za;", 0, -30, 1000000);
        RiverModel x = Checks.built("sa,0,9;za;za;");
        x.run(1);
        c.due("the second finds nothing", x.flow(2), 0);
        c.due("book(2)", x.book(2), 9);
        c.due("book(1)", x.book(1), 0);
        c.due("has(0, 0)", x.has(0, 0), 0);
    }

    private void weatherAtFirst() {
        c.of("Terms", "RAIN (0 to 10000; 0 at first), TEMP (-30 to 40; 10 at first)");
        RiverModel x = Checks.built("sa,0,1000000;ea,10;ra,100;na,100;");
        for (int hour = 0; hour < 96; hour++) {
            x.run(1);
            c.due("TEMP of A at first, HOUR " + hour, x.flow(1), 10);
            c.due("RAIN of A at first, HOUR " + hour, x.flow(2) + x.flow(3), 0);
        }
        x.gauge(0, 0, 1);
        x.gauge(1, 1, 0);
        x.weather(0, 0, 0, 11);
        x.weather(0, 95, 0, 9);
        c.due("TEMP of B at first, HOUR 0", x.blame(0, 0, 0), -1);
        c.due("TEMP of B at first, HOUR 95", x.blame(0, 95, 0), 1);
        c.due("RAIN of B at first", x.blame(1, 95, 0), 0);
    }

    private void weatherOfAllHours() {
        c.of("Terms", "WEATHER A, B: of HOURS 0 to 95");
        RiverModel x = Checks.built("sa,0,0;ra,100;na,100;za;");
        for (int hour = 0; hour < 96; hour++) {
            x.weather(0, hour, 100 + hour, hour % 2);
        }
        for (int hour = 0; hour < 96; hour++) {
            x.run(1);
            c.due("rain in HOUR " + hour, x.flow(1), hour % 2 * (100 + hour));
            c.due("snow in HOUR " + hour, x.flow(2), (1 - hour % 2) * (100 + hour));
        }
        RiverModel y = Checks.built("sa,0,0;ra,100;na,100;za;");
        y.gauge(0, 0, 3);
        for (int hour = 0; hour < 96; hour++) {
            y.weather(1, hour, 100 + hour, hour % 2);
        }
        for (int hour = 0; hour < 96; hour++) {
            c.due("by WEATHER B in HOUR " + hour, y.blame(0, hour, 0), 100 + hour);
        }
    }

    private void runAtFirst() {
        c.of("Terms", "A RUN has of each STORE what it has (START at first)");
        RiverModel x = Checks.built("sa,5,1000000;sb,1000000,0;sp,0,3;gap,1;");
        c.due("has(0, 0)", x.has(0, 0), 1000000);
        c.due("has(1, 0)", x.has(1, 0), 0);
        c.due("has(15, 0)", x.has(15, 0), 3);
        c.due("has(15, 1)", x.has(15, 1), 0);
        for (int what = 0; what <= 4; what++) {
            c.due("book(" + what + ")", x.book(what), what == 3 ? 1000003 : 0);
        }
        c.due("count(4)", x.count(4), 0);
        c.of("Terms", "OPENINGS of GATES (0 to 10; 5 at first)");
        c.due("gate(0, 10)", x.gate(0, 10), 5);
        c.due("gate(0, 0)", x.gate(0, 0), 10);
        c.due("gate(0, 5)", x.gate(0, 5), 0);
    }

    private void anHour() {
        c.of("Terms", "2 ITEMS act in order (those of kind s do nothing), by what there is then; what each moved is its FLOW in that HOUR");
        RiverModel x = Checks.built("sa,0,8;sb,0,0;lab,1,2,0;lab,1,2,0;lba,1,1,5;lab,1,1,0;");
        x.run(1);
        long[] wants = {0, 0, 4, 2, 1, 3};
        for (int i = 0; i < 6; i++) {
            c.due("flow(" + i + ")", x.flow(i), wants[i]);
        }
        c.due("has(0, 0)", x.has(0, 0), 0);
        c.due("has(1, 0)", x.has(1, 0), 8);
        c.of("Terms", "3 it is the next HOUR");
        c.due("count(4)", x.count(4), 1);
        x.run(1);
        long[] next = {0, 0, 0, 0, 3, 3};
        for (int i = 0; i < 6; i++) {
            c.due("flow(" + i + ") in the next HOUR", x.flow(i), next[i]);
        }
        c.due("count(4)", x.count(4), 2);
    }

    private void runGoesByWeatherA() {
        c.of("Terms", "==== 2 THE RUN goes by WEATHER A.");
        RiverModel x = Checks.built("sa,0,0;ra,100;na,100;");
        x.weather(1, 0, 10000, -30);
        x.weather(1, 95, 10000, 40);
        x.run(96);
        c.due("book(0) by B", x.book(0), 0);
        x.weather(0, 95, 10000, 40);
        x.anew();
        x.run(95);
        c.due("book(0) ahead of HOUR 95", x.book(0), 0);
        x.run(1);
        c.due("book(0) in HOUR 95", x.book(0), 10000);
    }

    private void settingWeather() {
        c.of("Promise 7", "Of WEATHER w (0 A, 1 B) and an HOUR RAIN, TEMP: 0. BAD.");
        int[][] told = {{0, 0, 0, -30}, {1, 0, 0, -30}, {0, 95, 10000, 40}, {1, 95, 10000, 40}, {0, 0, 10000, -30}, {1, 95, 0, 40}};
        RiverModel x = new RiverModel();
        for (int[] a : told) {
            c.due("weather" + Arrays.toString(a), x.weather(a[0], a[1], a[2], a[3]), 0);
        }
        int least = Integer.MIN_VALUE;
        int most = Integer.MAX_VALUE;
        int[][] bad = {{-1, 0, 0, 0}, {2, 0, 0, 0}, {least, 0, 0, 0}, {most, 0, 0, 0}, {0, -1, 0, 0}, {0, 96, 0, 0}, {0, least, 0, 0},
            {0, most, 0, 0}, {0, 0, -1, 0}, {0, 0, 10001, 0}, {0, 0, least, 0}, {0, 0, most, 0}, {0, 0, 0, -31}, {0, 0, 0, 41},
            {0, 0, 0, least}, {0, 0, 0, most}, {1, 95, 10001, 40}, {1, 95, 10000, 41}, {1, 96, 10000, 40}};
        for (int[] a : bad) {
            c.due("weather" + Arrays.toString(a), x.weather(a[0], a[1], a[2], a[3]), BAD);
        }
        c.of("Terms", "nothing changes then");
        RiverModel y = Checks.built("sa,0,1000;ra,100;ea,10;");
        y.weather(0, 0, 7, 3);
        y.weather(0, 0, 8, 41);
        y.weather(0, 0, 10001, 4);
        y.run(1);
        c.due("RAIN of a refused call", y.flow(1), 7);
        c.due("TEMP of a refused call", y.flow(2), 3);
        y.weather(0, 0, 100, 1);
        c.due("an HOUR that was stays as it was", y.flow(1), 7);
    }

    private void beginningAnew() {
        c.of("Promise 8", "THE RUN at its beginning again: HOURS there were. NO: no MODEL.");
        c.due("anew() of no MODEL", Checks.written("sa,0,0;").anew(), NO);
        RiverModel x = Checks.built("sa,0,9;sb,0,0;gab,1;tba,12;");
        c.due("anew() at HOUR 0", x.anew(), 0);
        x.gate(0, 10);
        x.run(1);
        c.due("anew() after one HOUR", x.anew(), 1);
        c.due("count(4)", x.count(4), 0);
        c.due("has(0, 0)", x.has(0, 0), 9);
        c.due("has(0, 1)", x.has(0, 1), 0);
        c.due("OPENING", x.gate(0, 5), 5);
        c.due("flow(2)", x.flow(2), NO);
        x.run(96);
        c.due("anew() after all HOURS", x.anew(), 96);
        c.due("run(96)", x.run(96), 96);
        RiverModel y = Checks.built("sa,0,50;sb,0,7;sc,0,0;ra,100;ea,10;zb;tac,3;");
        y.weather(0, 0, 30, 10);
        y.run(1);
        long[] wants = {30, 10, 7, 0, 70, 57};
        for (int what = 0; what <= 5; what++) {
            c.due("book(" + what + ") of one HOUR", y.book(what), wants[what]);
        }
        c.due("anew()", y.anew(), 1);
        for (int what = 0; what <= 5; what++) {
            c.due("book(" + what + ") anew", y.book(what), what == 3 || what == 5 ? 57 : 0);
        }
        y.run(1);
        for (int what = 0; what <= 5; what++) {
            c.due("book(" + what + ") of one HOUR again", y.book(what), wants[what]);
        }
    }

    private void running() {
        c.of("Promise 9", "n HOURS (1 to 96) of THE RUN: HOURS. BAD; NO; FULL: beyond 96.");
        int[] bad = {0, -1, 97, Integer.MIN_VALUE, Integer.MAX_VALUE};
        for (int n : bad) {
            c.due("run(" + n + ")", Checks.built("sa,0,0;").run(n), BAD);
            c.due("run(" + n + ") of no MODEL", new RiverModel().run(n), BAD);
            RiverModel y = Checks.built("sa,0,0;");
            y.run(96);
            c.due("run(" + n + ") at the end", y.run(n), BAD);
        }
        c.due("run(1) of no MODEL", new RiverModel().run(1), NO);
        c.due("run(96) of no MODEL", new RiverModel().run(96), NO);
        c.due("run(1)", Checks.built("sa,0,0;").run(1), 1);
        c.due("run(96)", Checks.built("sa,0,0;").run(96), 96);
        for (int were = 1; were <= 96; were++) {
            RiverModel x = Checks.built("sa,0,0;");
            x.run(were);
            c.due("run to 97", x.run(97 - were), FULL);
            c.due("count(4)", x.count(4), were);
            c.due("run(96) then", x.run(96), FULL);
            if (were < 96) {
                c.due("run to 96", x.run(96 - were), 96);
            }
            c.due("run(1) at the end", x.run(1), FULL);
        }
    }

    private void whatStoresHave() {
        c.of("Promise 10", "What a STORE has; what = 1: under way to it. BAD; NO (no MODEL, too).");
        RiverModel x = Checks.built("sa,0,6;sp,0,0;tap,2;");
        x.run(1);
        c.due("has(0, 0)", x.has(0, 0), 0);
        c.due("has(15, 0)", x.has(15, 0), 0);
        c.due("has(15, 1)", x.has(15, 1), 6);
        c.due("has(0, 1)", x.has(0, 1), 0);
        int[] stores = {-1, 16, Integer.MIN_VALUE, Integer.MAX_VALUE};
        int[] whats = {-1, 2, Integer.MIN_VALUE, Integer.MAX_VALUE};
        for (int k = 0; k < 4; k++) {
            c.due("has(" + stores[k] + ", 0)", x.has(stores[k], 0), BAD);
            c.due("has(0, " + whats[k] + ")", x.has(0, whats[k]), BAD);
            c.due("has(1, " + whats[k] + ")", x.has(1, whats[k]), BAD);
            c.due("has(" + stores[k] + ", 1) of no MODEL", new RiverModel().has(stores[k], 1), BAD);
            c.due("has(0, " + whats[k] + ") of no MODEL", new RiverModel().has(0, whats[k]), BAD);
        }
        c.due("has(1, 0)", x.has(1, 0), NO);
        c.due("has(14, 1)", x.has(14, 1), NO);
        c.due("has(0, 0) of no MODEL", Checks.written("sa,0,0;").has(0, 0), NO);
        c.due("has(15, 1) of no MODEL", new RiverModel().has(15, 1), NO);
    }

    private void flows() {
        c.of("Promise 11", "FLOW of an ITEM in the last HOUR. BAD; NO: no MODEL, no HOUR was.");
        String land = "sa,0,6;" + "za;".repeat(39);
        RiverModel x = Checks.built(land);
        c.due("flow(0), no HOUR was", x.flow(0), NO);
        c.due("flow(39), no HOUR was", x.flow(39), NO);
        c.due("flow(40), no HOUR was", x.flow(40), BAD);
        x.run(1);
        c.due("flow(0)", x.flow(0), 0);
        c.due("flow(1)", x.flow(1), 6);
        c.due("flow(39)", x.flow(39), 0);
        int[] bad = {-1, 40, Integer.MIN_VALUE, Integer.MAX_VALUE};
        for (int i : bad) {
            c.due("flow(" + i + ")", x.flow(i), BAD);
            c.due("flow(" + i + ") of no MODEL", new RiverModel().flow(i), BAD);
        }
        RiverModel y = Checks.built("sa,0,6;za;");
        y.run(1);
        c.due("flow(2) of two", y.flow(2), NO);
        c.due("flow(39) of two", y.flow(39), NO);
        c.due("flow(0) of no MODEL", new RiverModel().flow(0), NO);
    }

    private void openings() {
        c.of("Promise 12", "OPENING of a GATE becomes v: what it was. BAD; NO.");
        RiverModel x = Checks.built("sa,0,6;sb,0,0;gab,1;gab,1;gab,1;gab,1;");
        for (int gate = 0; gate < 4; gate++) {
            c.due("gate(" + gate + ", 0)", x.gate(gate, 0), 5);
            c.due("gate(" + gate + ", 10)", x.gate(gate, 10), 0);
            c.due("gate(" + gate + ", " + gate + ")", x.gate(gate, gate), 10);
        }
        int[] gates = {-1, 4, Integer.MIN_VALUE, Integer.MAX_VALUE};
        int[] vs = {-1, 11, Integer.MIN_VALUE, Integer.MAX_VALUE};
        for (int k = 0; k < 4; k++) {
            c.due("gate(" + gates[k] + ", 1)", x.gate(gates[k], 1), BAD);
            c.due("gate(3, " + vs[k] + ")", x.gate(3, vs[k]), BAD);
            c.due("gate(0, " + vs[k] + ") of no MODEL", new RiverModel().gate(0, vs[k]), BAD);
            c.due("gate(" + gates[k] + ", 1) of no MODEL", new RiverModel().gate(gates[k], 1), BAD);
            c.due("gate(1, " + vs[k] + ") of one", Checks.built("sa,0,6;sb,0,0;gab,1;").gate(1, vs[k]), BAD);
        }
        for (int gate = 0; gate < 4; gate++) {
            c.due("what it was", x.gate(gate, 5), gate);
        }
        c.due("gate(1, 5) of one", Checks.built("sa,0,6;sb,0,0;gab,1;").gate(1, 5), NO);
        c.due("gate(0, 5) of none", Checks.built("sa,0,6;").gate(0, 5), NO);
        c.due("gate(3, 5) of three", Checks.built("sa,0,6;sb,0,0;gab,1;gab,1;gab,1;").gate(3, 5), NO);
        c.due("gate(0, 5) of no MODEL", new RiverModel().gate(0, 5), NO);
    }

    private void booksAtTheEdges() {
        c.of("Promise 13", "0 all RAIN that came to STORES, 1 AIR, 2 SEA, 3 what all STORES have, 4 under way, 5 START of all. BAD; NO.");
        RiverModel x = Checks.built("sa,0,1000000;sb,0,1000000;sp,0,1000000;ea,1000;zb;tpa,12;ra,100;nb,100;");
        c.due("book(3) at HOUR 0", x.book(3), 3000000);
        c.due("book(5) at HOUR 0", x.book(5), 3000000);
        for (int hour = 0; hour < 96; hour++) {
            x.weather(0, hour, 10000, hour < 95 ? 40 : 0);
        }
        x.run(1);
        long[] first = {10000, 4000, 1000000, 1006000, 1000000, 3000000};
        for (int what = 0; what <= 5; what++) {
            c.due("book(" + what + ") of one HOUR", x.book(what), first[what]);
        }
        x.run(95);
        // the air takes 4000 in each of 95 HOURS, the rain is all for a but the last, which is snow for b
        long[] last = {960000, 380000, 1000000, 2580000, 0, 3000000};
        for (int what = 0; what <= 5; what++) {
            c.due("book(" + what + ") of all HOURS", x.book(what), last[what]);
        }
        int[] bad = {-1, 6, Integer.MIN_VALUE, Integer.MAX_VALUE};
        for (int what : bad) {
            c.due("book(" + what + ")", x.book(what), BAD);
            c.due("book(" + what + ") of no MODEL", new RiverModel().book(what), BAD);
        }
        for (int what = 0; what <= 5; what++) {
            c.due("book(" + what + ") of no MODEL", new RiverModel().book(what), NO);
        }
    }
}
