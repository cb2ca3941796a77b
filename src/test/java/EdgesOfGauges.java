import java.util.Arrays;

/** Edges of gauges and fits: GAUGES, SEEN, KNOBS, FITS, ENDS, and promises 14 to 21. */
final class EdgesOfGauges {
    private static final int BAD = RiverModel.BAD, NO = RiverModel.NO, NONE = RiverModel.NONE;
    private static final int LEAST = Integer.MIN_VALUE, MOST = Integer.MAX_VALUE;

    private final Checks c;

    EdgesOfGauges(Checks checks) {
        c = checks;
    }

    void all() {
        gaugesAtFirst();
        readings();
        seenAtTheEdges();
        seenOfAllHours();
        knobsAtFirst();
        latticeOfOnePoint();
        latticeOfAllPoints();
        noFitBeyondWhatIsTold();
        pByQ();
        trialsOfFits();
        endsBothWays();
        endsAtTheEdges();
        withoutKnobs();
        settingGauges();
        whatGaugesHaveSeen();
        readingGauges();
        seeing();
        settingEnds();
        settingKnobs();
        knobsOfNumbersThatAreNot();
        noKnob();
        countingFits();
        askingForFits();
        taking();
        takingTheLast();
        bookOfATakenModel();
    }

    private void gaugesAtFirst() {
        c.of("Terms", "GAUGES 0 to 3 read an ITEM's FLOW in an HOUR, or what a STORE has at its end (at first none is set)");
        RiverModel x = Checks.built("sa,0,6;za;");
        x.run(1);
        for (int k = 0; k < 4; k++) {
            c.due("reads(" + k + ") at first", x.reads(k), NO);
        }
        c.due("count(6) at first", x.count(6), 0);
        for (int k = 0; k < 4; k++) {
            c.due("gauge(" + k + ", 0, 1)", x.gauge(k, 0, 1), 0);
            c.due("count(6)", x.count(6), k + 1);
            c.due("reads(" + k + ")", x.reads(k), 6);
        }
    }

    private void readings() {
        c.of("Terms", "or what a STORE has at its end");
        RiverModel x = Checks.built("sa,0,1000000;sb,0,5;lab,1,1,0;oba;za;ra,100;");
        x.weather(0, 0, 3, 10);
        x.gauge(0, 0, 0);
        x.gauge(1, 0, 2);
        x.gauge(2, 1, 0);
        x.gauge(3, 1, 1);
        x.run(1);
        c.due("the FLOW of a STORE's ITEM", x.reads(0), 0);
        c.due("the FLOW, though all went on", x.reads(1), 1000000);
        c.due("STORE a at the HOUR's end", x.reads(2), 3);
        c.due("STORE b at the HOUR's end", x.reads(3), 0);
    }

    private void seenAtTheEdges() {
        c.of("Terms", "SEEN of a GAUGE and an HOUR is a number (0 to 10000000) or a GAP");
        StringBuilder ten = new StringBuilder("sa,1000000,1000000;");
        StringBuilder into = new StringBuilder();
        for (char name = 'b'; name <= 'j'; name++) {
            ten.append('s').append(name).append(",0,1000000;");
            into.append('o').append(name).append("a;");
        }
        RiverModel x = Checks.built(ten.toString() + into);
        x.gauge(0, 1, 0);
        x.gauge(1, 1, 1);
        x.see(0, 0, 10000000);
        c.due("a reading of 10000000 is SEEN", x.fits(), 1);
        x.see(0, 0, 9999999);
        c.due("not 9999999", x.fits(), 0);
        x.see(0, 0, -1);
        x.see(1, 0, 0);
        c.due("a reading of 0 is SEEN", x.fits(), 1);
        x.see(1, 0, 1);
        c.due("not 1", x.fits(), 0);
        x.see(1, 0, -1);
        c.due("a GAP", x.fits(), 1);
    }

    private void seenOfAllHours() {
        c.of("Terms", "SEEN of a GAUGE and an HOUR is a number (0 to 10000000) or a GAP");
        RiverModel x = Checks.built("sa,0,0;ra,100;za;");
        for (int k = 0; k < 4; k++) {
            x.gauge(k, 0, 1);
        }
        for (int k = 0; k < 4; k++) {
            for (int hour = 0; hour < 96; hour++) {
                x.see(k, hour, 0);
            }
            c.due("count(7) of GAUGES to " + k, x.count(7), 96 * (k + 1));
        }
        c.due("0 is SEEN everywhere", x.fits(), 1);
        int[] hours = {0, 1, 94, 95};
        for (int hour : hours) {
            x.weather(0, hour, 1, 10);
            c.due("RAIN in HOUR " + hour, x.fits(), 0);
            x.weather(0, hour, 0, 10);
        }
        c.due("RAIN in none", x.fits(), 1);
        for (int k = 0; k < 4; k++) {
            x.see(k, 95, 1);
            c.due("GAUGE " + k + " off in HOUR 95", x.fits(), 0);
            x.see(k, 95, -1);
            c.due("GAUGE " + k + " with a GAP", x.fits(), 1);
        }
    }

    private void knobsAtFirst() {
        c.of("Terms", "KNOBS 0, 1: a number of an ITEM (its first, 0, to third, 2), from, a step above 0, how many (1 to 16); none at first");
        RiverModel x = Checks.built("sa,0,6;sb,0,0;lab,1,2,3;");
        c.due("count(5) at first", x.count(5), 0);
        c.due("fit(0, 0) at first", x.fit(0, 0), NONE);
        c.due("fit(0, 1) at first", x.fit(0, 1), NONE);
        int[] starts = {1, 2, 3};
        for (int j = 0; j <= 2; j++) {
            c.due("knob on number " + j, x.knob(0, 2, j, starts[j], 1, 1), 0);
            c.due("take(0)", x.take(0), 0);
            c.due("the number is its own", x.item(2, 3 + j), starts[j]);
        }
        for (int j = 0; j <= 2; j++) {
            RiverModel y = Checks.built("sa,0,6;sb,0,0;lab,1,2,3;");
            y.knob(1, 2, j, 2, 1, 1);
            y.take(0);
            for (int other = 0; other <= 2; other++) {
                c.due("KNOB on number " + j + ": item(2, " + (3 + other) + ")", y.item(2, 3 + other), other == j ? 2 : starts[other]);
            }
        }
    }

    private void latticeOfOnePoint() {
        c.of("Terms", "how many (1 to 16)");
        RiverModel x = Checks.built("sa,0,6;");
        x.knob(0, 0, 1, 0, 1000000, 1);
        c.due("from 0", x.fits(), 1);
        c.due("fit(0, 0)", x.fit(0, 0), 0);
        c.due("fit(1, 0)", x.fit(1, 0), NONE);
        x.knob(0, 0, 1, 1000000, 1, 1);
        c.due("from 1000000", x.fits(), 1);
        c.due("fit(0, 0)", x.fit(0, 0), 1000000);
        x.knob(0, 0, 1, 0, 1000000, 2);
        c.due("to 1000000", x.fits(), 2);
        c.due("fit(1, 0)", x.fit(1, 0), 1000000);
        x.knob(0, 0, 1, 1, 1000000, 2);
        c.due("to 1000001", x.fits(), 1);
        c.due("fit(0, 0)", x.fit(0, 0), 1);
        c.due("fit(1, 0)", x.fit(1, 0), NONE);
        x.knob(0, 0, 1, 1000000, 1000000, 16);
        c.due("to 16000000", x.fits(), 1);
        c.due("fit(0, 0)", x.fit(0, 0), 1000000);
        c.due("fit(1, 0)", x.fit(1, 0), NONE);
    }

    private void latticeOfAllPoints() {
        c.of("Terms", "of all lattice points in the order of KNOB 0's, then 1's");
        RiverModel x = Checks.built("sa,0,6;sb,0,0;");
        x.knob(0, 1, 1, 100, 3, 16);
        x.knob(1, 0, 0, 7, 2, 16);
        c.due("fits()", x.fits(), 256);
        int[] some = {0, 1, 15, 16, 17, 31, 128, 239, 240, 254, 255};
        for (int i : some) {
            c.due("fit(" + i + ", 0)", x.fit(i, 0), 100 + 3 * (i / 16));
            c.due("fit(" + i + ", 1)", x.fit(i, 1), 7 + 2 * (i % 16));
        }
        c.due("fit(256, 0)", x.fit(256, 0), NONE);
        c.due("fit(256, 1)", x.fit(256, 1), NONE);
        x.knob(0, 1, 1, 100, 3, 0);
        c.due("KNOB 1 alone", x.fits(), 16);
        c.due("fit(15, 1)", x.fit(15, 1), 37);
        c.due("fit(15, 0)", x.fit(15, 0), NONE);
        c.due("fit(16, 1)", x.fit(16, 1), NONE);
        x.knob(0, 1, 1, 100, 3, 1);
        c.due("KNOB 0 of one", x.fits(), 16);
        c.due("fit(15, 0)", x.fit(15, 0), 100);
        x.knob(1, 0, 0, 7, 2, 0);
        x.knob(0, 1, 1, 100, 3, 16);
        c.due("KNOB 0 alone", x.fits(), 16);
        c.due("fit(15, 0)", x.fit(15, 0), 145);
        c.due("fit(15, 1)", x.fit(15, 1), NONE);
    }

    /** The last two numbers that are told and the first that is not; the same at the low end, if that is above 0. */
    private void fitsTo(String item, int j, int least, int most) {
        RiverModel x = Checks.built("sa,0,0;sb,0,0;" + item);
        x.knob(0, 2, j, most - 1, 1, 3);
        c.due("FITS of number " + j + " to " + most + " of " + item, x.fits(), 2);
        c.due("the second", x.fit(1, 0), most);
        c.due("the third", x.fit(2, 0), NONE);
        x.knob(0, 2, j, 0, 1, least + 1);
        c.due("FITS of number " + j + " from " + least + " of " + item, x.fits(), 1);
        c.due("the first", x.fit(0, 0), least);
        c.due("take(0)", x.take(0), 0);
        c.due("item(2, " + (3 + j) + ")", x.item(2, 3 + j), least);
    }

    private void noFitBeyondWhatIsTold() {
        c.of("Terms", "one by which an ITEM is not as told is no FIT");
        fitsTo("sc,0,0;", 0, 0, 1000000);
        fitsTo("sc,0,0;", 1, 0, 1000000);
        fitsTo("lab,0,7,0;", 0, 0, 7);
        fitsTo("lab,0,1000,0;", 0, 0, 1000);
        fitsTo("lab,0,7,0;", 1, 1, 1000);
        fitsTo("lab,3,7,0;", 1, 3, 1000);
        fitsTo("lab,1,1,0;", 2, 0, 1000000);
        fitsTo("mab,0;", 0, 0, 1000);
        fitsTo("gab,0;", 0, 0, 10000);
        fitsTo("tab,5;", 0, 1, 12);
        fitsTo("ra,0;", 0, 0, 100);
        fitsTo("na,0;", 0, 0, 100);
        fitsTo("ea,0;", 0, 0, 1000);
    }

    private void pByQ() {
        c.of("Terms", "one by which an ITEM is not as told is no FIT");
        RiverModel x = Checks.built("sa,0,0;sb,0,0;lab,9,9,0;");
        x.knob(0, 2, 0, 1, 1, 3);
        x.knob(1, 2, 1, 0, 1, 4);
        int[][] points = {{1, 1}, {1, 2}, {1, 3}, {2, 2}, {2, 3}, {3, 3}};
        c.due("p 1 to 3, q 0 to 3", x.fits(), 6);
        for (int i = 0; i < points.length; i++) {
            c.due("fit(" + i + ", 0)", x.fit(i, 0), points[i][0]);
            c.due("fit(" + i + ", 1)", x.fit(i, 1), points[i][1]);
        }
        // neither KNOB alone may have made its point no FIT: 9 by 3 is none, 3 by 3 is
        c.due("take(5)", x.take(5), 0);
        c.due("item(2, 3)", x.item(2, 3), 3);
        c.due("item(2, 4)", x.item(2, 4), 3);
    }

    private void trialsOfFits() {
        c.of("Terms", "It HOLDS, if a trial RUN by WEATHER A from HOUR 0 on (OPENINGS 5) reads, wherever something is SEEN");
        RiverModel x = Checks.built("sa,0,0;sb,0,0;ra,100;gab,1;");
        x.gauge(0, 1, 1);
        x.gauge(1, 1, 0);
        x.weather(0, 0, 6, 10);
        x.weather(1, 0, 60, 10);
        x.gate(0, 10);
        x.run(1);
        x.see(0, 0, 5);
        x.see(1, 0, 1);
        c.due("OPENINGS are 5", x.fits(), 1);
        x.see(0, 0, 6);
        c.due("not those of THE RUN", x.fits(), 0);
        x.see(0, 0, -1);
        x.see(1, 0, -1);
        x.see(0, 95, 6);
        c.due("to HOUR 95", x.fits(), 1);
        x.see(0, 95, 5);
        c.due("to HOUR 95", x.fits(), 0);
    }

    private void off(int reading, int seen, int ends, int want) {
        RiverModel x = Checks.built("sa,0," + reading + ";");
        x.gauge(3, 1, 0);
        x.see(3, 0, seen);
        x.ends(ends);
        c.due("reading " + reading + ", SEEN " + seen + ", ENDS " + ends + ": fits()", x.fits(), want);
    }

    private void endsBothWays() {
        c.of("Terms", "what is off by ENDS (0 to 100000; 0 at first) at most");
        off(50, 50, 0, 1);
        off(50, 49, 0, 0);
        off(50, 51, 0, 0);
        off(50, 49, 1, 1);
        off(50, 51, 1, 1);
        off(50, 48, 1, 0);
        off(50, 52, 1, 0);
    }

    private void endsAtTheEdges() {
        c.of("Terms", "what is off by ENDS (0 to 100000; 0 at first) at most");
        off(200000, 100000, 100000, 1);
        off(200000, 99999, 100000, 0);
        off(200000, 300000, 100000, 1);
        off(200000, 300001, 100000, 0);
        off(0, 100000, 100000, 1);
        off(0, 100001, 100000, 0);
        off(0, 10000000, 100000, 0);
        off(1000000, 0, 100000, 0);
        RiverModel x = Checks.built("sa,0,50;");
        x.gauge(0, 1, 0);
        x.see(0, 0, 51);
        c.due("ENDS are 0 at first", x.fits(), 0);
    }

    private void withoutKnobs() {
        c.of("Terms", "Without KNOBS there is one point.");
        RiverModel x = Checks.built("sa,77,50;sb,0,0;lab,1,2,3;");
        x.gauge(0, 1, 0);
        c.due("fits()", x.fits(), 1);
        c.due("take(1)", x.take(1), NONE);
        c.due("take(0)", x.take(0), 0);
        numbersAre(x, 77, 50, 1, 2, 3);
        x.knob(0, 2, 0, 2, 1, 3);
        x.knob(1, 0, 0, 5, 1, 3);
        x.knob(0, 2, 2, 9, 1, 0);
        x.knob(1, 0, 1, 6, 1, 0);
        c.due("fits(), both KNOBS gone again", x.fits(), 1);
        c.due("take(0)", x.take(0), 0);
        numbersAre(x, 77, 50, 1, 2, 3);
        x.knob(1, 0, 1, 6, 1, 2);
        c.due("take(1) of KNOB 1 alone", x.take(1), 0);
        numbersAre(x, 77, 7, 1, 2, 3);
        x.see(0, 0, 50);
        c.due("fits(), and none HOLDS", x.fits(), 0);
        c.due("take(0)", x.take(0), NONE);
        x.knob(1, 0, 0, 0, 1, 0);
        c.due("fits(), and the one does not HOLD", x.fits(), 0);
        c.due("take(0)", x.take(0), NONE);
    }

    /** Of a land of two STORES and a LEAK. */
    private void numbersAre(RiverModel x, int capacity, int start, int p, int q, int h) {
        c.due("item(0, 3)", x.item(0, 3), capacity);
        c.due("item(0, 4)", x.item(0, 4), start);
        c.due("item(2, 3)", x.item(2, 3), p);
        c.due("item(2, 4)", x.item(2, 4), q);
        c.due("item(2, 5)", x.item(2, 5), h);
    }

    private void settingGauges() {
        c.of("Promise 14", "A GAUGE reads ITEM i (what = 0), STORE i (1): 0. BAD; NO.");
        RiverModel x = Checks.built("sa,0,6;sp,0,0;" + "za;".repeat(38));
        int[][] told = {{0, 0, 0}, {3, 0, 39}, {0, 1, 0}, {3, 1, 15}};
        for (int[] a : told) {
            c.due("gauge(" + a[0] + ", " + a[1] + ", " + a[2] + ")", x.gauge(a[0], a[1], a[2]), 0);
        }
        int[][] bad = {{-1, 0, 0}, {4, 0, 0}, {LEAST, 0, 0}, {MOST, 0, 0}, {0, -1, 0}, {0, 2, 0}, {0, LEAST, 0}, {0, MOST, 0},
            {0, 0, -1}, {0, 0, 40}, {0, 0, LEAST}, {0, 0, MOST}, {0, 1, -1}, {0, 1, 16}, {0, 1, 39}, {0, 1, LEAST}, {0, 1, MOST}};
        for (int[] a : bad) {
            String call = "gauge(" + a[0] + ", " + a[1] + ", " + a[2] + ")";
            c.due(call, x.gauge(a[0], a[1], a[2]), BAD);
            c.due(call + " of no MODEL", new RiverModel().gauge(a[0], a[1], a[2]), BAD);
        }
        c.due("STORE b is none", x.gauge(0, 1, 1), NO);
        c.due("STORE o is none", x.gauge(0, 1, 14), NO);
        RiverModel y = Checks.built("sa,0,6;za;");
        c.due("ITEM 1 of two", y.gauge(0, 0, 1), 0);
        c.due("ITEM 2 of two", y.gauge(0, 0, 2), NO);
        c.due("ITEM 16 of two", y.gauge(0, 0, 16), NO);
        c.due("ITEM 39 of two", y.gauge(0, 0, 39), NO);
        c.due("STORE 15 of one", y.gauge(0, 1, 15), NO);
        c.due("gauge(0, 0, 0) of no MODEL", new RiverModel().gauge(0, 0, 0), NO);
        c.due("gauge(3, 1, 15) of no MODEL", new RiverModel().gauge(3, 1, 15), NO);
    }

    private void whatGaugesHaveSeen() {
        c.of("Promise 14", "What it has SEEN goes.");
        RiverModel x = Checks.built("sa,0,6;za;");
        for (int k = 0; k < 4; k++) {
            x.gauge(k, 0, 1);
            x.see(k, 0, 1);
            x.see(k, 95, 2);
        }
        c.due("a refused call", x.gauge(1, 1, 15), NO);
        c.due("a refused call", x.gauge(1, 2, 0), BAD);
        c.due("count(7)", x.count(7), 8);
        c.due("the same ITEM again", x.gauge(1, 0, 1), 0);
        c.due("count(7)", x.count(7), 6);
        c.due("see(1, 0, -1)", x.see(1, 0, -1), -1);
        c.due("see(1, 95, -1)", x.see(1, 95, -1), -1);
        c.due("see(0, 95, -1)", x.see(0, 95, -1), 2);
        c.due("see(2, 0, -1)", x.see(2, 0, -1), 1);
    }

    private void readingGauges() {
        c.of("Promise 15", "What a GAUGE reads in THE RUN's last HOUR. BAD; NO: it is not set, no HOUR was.");
        RiverModel x = Checks.built("sa,0,6;za;");
        x.gauge(0, 0, 1);
        x.gauge(3, 1, 0);
        c.due("reads(0), no HOUR was", x.reads(0), NO);
        c.due("reads(3), no HOUR was", x.reads(3), NO);
        c.due("reads(1), not set", x.reads(1), NO);
        x.run(1);
        c.due("reads(0)", x.reads(0), 6);
        c.due("reads(3)", x.reads(3), 0);
        c.due("reads(1), not set", x.reads(1), NO);
        int[] bad = {-1, 4, LEAST, MOST};
        for (int k : bad) {
            c.due("reads(" + k + ")", x.reads(k), BAD);
            c.due("reads(" + k + ") of no MODEL", new RiverModel().reads(k), BAD);
        }
        x.run(95);
        c.due("reads(0) in HOUR 95", x.reads(0), 0);
        x.anew();
        c.due("reads(0) anew", x.reads(0), NO);
        c.due("reads(0) of no MODEL", new RiverModel().reads(0), NO);
    }

    private void seeing() {
        c.of("Promise 16", "SEEN (-1: a GAP): what it was (-1). BAD answers -100; NO (not set) -102.");
        RiverModel x = Checks.built("sa,0,6;za;");
        x.gauge(0, 0, 1);
        x.gauge(3, 0, 1);
        int[][] told = {{0, 0, 0}, {0, 95, 10000000}, {3, 0, 10000000}, {3, 95, 0}};
        for (int[] a : told) {
            String call = "see(" + a[0] + ", " + a[1] + ", ";
            c.due(call + a[2] + ")", x.see(a[0], a[1], a[2]), -1);
            c.due(call + "-1)", x.see(a[0], a[1], -1), a[2]);
            c.due(call + "-1) again", x.see(a[0], a[1], -1), -1);
            c.due(call + a[2] + ") again", x.see(a[0], a[1], a[2]), -1);
        }
        int[][] bad = {{-1, 0, 0}, {4, 0, 0}, {LEAST, 0, 0}, {MOST, 0, 0}, {0, -1, 0}, {0, 96, 0}, {0, LEAST, 0}, {0, MOST, 0},
            {0, 0, -2}, {0, 0, 10000001}, {0, 0, LEAST}, {0, 0, MOST}, {1, 0, -2}, {1, 96, 0}};
        for (int[] a : bad) {
            String call = "see(" + a[0] + ", " + a[1] + ", " + a[2] + ")";
            c.due(call, x.see(a[0], a[1], a[2]), -100);
            c.due(call + " of no MODEL", new RiverModel().see(a[0], a[1], a[2]), -100);
        }
        c.due("count(7)", x.count(7), 4);
        c.due("see(1, 0, 0)", x.see(1, 0, 0), -102);
        c.due("see(2, 95, -1)", x.see(2, 95, -1), -102);
        c.due("see(0, 0, 0) of no MODEL", new RiverModel().see(0, 0, 0), -102);
        c.due("count(7)", x.count(7), 4);
    }

    private void settingEnds() {
        c.of("Promise 17", "ENDS: what they were. BAD.");
        RiverModel x = new RiverModel();
        c.due("ends(100000)", x.ends(100000), 0);
        int[] bad = {-1, 100001, LEAST, MOST};
        for (int v : bad) {
            c.due("ends(" + v + ")", x.ends(v), BAD);
        }
        c.due("ends(0)", x.ends(0), 100000);
        c.due("ends(1)", x.ends(1), 0);
        c.due("ends(99999)", x.ends(99999), 1);
        c.due("ends(0)", x.ends(0), 99999);
    }

    private void settingKnobs() {
        c.of("Promise 18", "from 0 to 1000000, step 1 to 1000000, many 0 to 16");
        String land = "sa,0,0;sb,0,0;" + "za;".repeat(37) + "lab,1,2,3;";
        int[][] told = {{0, 0, 0, 0, 1, 1}, {1, 39, 2, 1000000, 1000000, 16}, {0, 39, 0, 1000000, 1, 16}, {1, 0, 1, 0, 1000000, 1},
            {0, 0, 0, 0, 1, 0}, {1, 39, 2, 1000000, 1000000, 0}};
        RiverModel x = Checks.built(land);
        for (int[] a : told) {
            c.due("knob" + Arrays.toString(a), x.knob(a[0], a[1], a[2], a[3], a[4], a[5]), 0);
        }
        int[] fine = {0, 39, 1, 5, 1, 3};
        c.due("knob as told", x.knob(0, 39, 1, 5, 1, 3), 0);
        int[] leasts = {0, 0, 0, 0, 1, 0};
        int[] mosts = {1, 39, 2, 1000000, 1000000, 16};
        for (int place = 0; place < 6; place++) {
            int[] others = {leasts[place] - 1, mosts[place] + 1, LEAST, MOST};
            for (int other : others) {
                int[] a = fine.clone();
                a[place] = other;
                String call = "knob" + Arrays.toString(a);
                c.due(call, x.knob(a[0], a[1], a[2], a[3], a[4], a[5]), BAD);
                c.due(call + " of no MODEL", new RiverModel().knob(a[0], a[1], a[2], a[3], a[4], a[5]), BAD);
                c.due(call + " of no ITEM", Checks.built("sa,0,0;").knob(a[0], a[1], a[2], a[3], a[4], a[5]), BAD);
            }
        }
        c.due("count(5)", x.count(5), 1);
        c.due("fits()", x.fits(), 3);
        c.due("fit(0, 0)", x.fit(0, 0), 5);
    }

    private void knobsOfNumbersThatAreNot() {
        c.of("Promise 18", "BAD; NO (an ITEM without that number, too).");
        RiverModel x = Checks.built("sa,0,0;sb,0,0;lab,1,2,3;oab;mab,1;gab,1;tab,1;ra,1;na,1;ea,1;za;");
        int[] numbers = {2, 2, 3, 0, 1, 1, 1, 1, 1, 1, 0};
        for (int i = 0; i < numbers.length; i++) {
            for (int j = 0; j <= 2; j++) {
                c.due("knob(0, " + i + ", " + j + ")", x.knob(0, i, j, 0, 1, 1), j < numbers[i] ? 0 : NO);
                c.due("knob(1, " + i + ", " + j + ", many = 0)", x.knob(1, i, j, 0, 1, 0), j < numbers[i] ? 0 : NO);
            }
        }
        c.due("ITEM 11 of eleven", x.knob(0, 11, 0, 0, 1, 1), NO);
        c.due("ITEM 39 of eleven", x.knob(0, 39, 0, 0, 1, 1), NO);
        c.due("knob of no MODEL", new RiverModel().knob(0, 0, 0, 0, 1, 1), NO);
        c.due("knob of no MODEL, many = 0", new RiverModel().knob(1, 39, 2, 1000000, 1000000, 0), NO);
    }

    private void noKnob() {
        c.of("Promise 18", "many = 0: none; all else is asked as for one");
        RiverModel x = Checks.built("sa,0,0;za;");
        c.due("none where none is", x.knob(0, 0, 0, 0, 1, 0), 0);
        c.due("count(5)", x.count(5), 0);
        x.knob(0, 0, 0, 0, 1, 4);
        x.knob(1, 0, 1, 0, 1, 2);
        c.due("fits()", x.fits(), 8);
        c.due("a number that is not", x.knob(0, 1, 0, 0, 1, 0), NO);
        c.due("an ITEM that is not", x.knob(0, 2, 0, 0, 1, 0), NO);
        c.due("a step of 0", x.knob(0, 0, 0, 0, 0, 0), BAD);
        c.due("from -1", x.knob(0, 0, 0, -1, 1, 0), BAD);
        c.due("count(5)", x.count(5), 2);
        c.due("another number", x.knob(0, 0, 1, 9, 9, 0), 0);
        c.due("count(5)", x.count(5), 1);
        c.due("fits()", x.fits(), 2);
        c.due("fit(1, 0)", x.fit(1, 0), NONE);
        c.due("fit(1, 1)", x.fit(1, 1), 1);
        c.due("KNOB 1, too", x.knob(1, 0, 1, 0, 1, 0), 0);
        c.due("count(5)", x.count(5), 0);
        c.due("fits()", x.fits(), 1);
    }

    private void countingFits() {
        c.of("Promise 19", "How many FITS HOLD. NO: no MODEL.");
        c.due("fits() of no MODEL", Checks.written("sa,0,0;").fits(), NO);
        RiverModel x = Checks.built("sa,0,0;");
        c.due("fits() of nothing SEEN", x.fits(), 1);
        x.gauge(0, 1, 0);
        x.knob(0, 0, 1, 10, 10, 16);
        x.see(0, 0, 160);
        c.due("the last of 16 HOLDS", x.fits(), 1);
        c.due("fit(0, 0)", x.fit(0, 0), 160);
        x.see(0, 0, 10);
        c.due("the first of 16 HOLDS", x.fits(), 1);
        c.due("fit(0, 0)", x.fit(0, 0), 10);
        x.see(0, 0, 170);
        c.due("none HOLDS", x.fits(), 0);
        c.due("fit(0, 0)", x.fit(0, 0), NONE);
        x.ends(10);
        c.due("one is off by 10", x.fits(), 1);
        x.knob(0, 0, 1, 1000000, 1, 0);
        x.knob(1, 0, 0, 1000000, 1, 2);
        x.see(0, 0, -1);
        c.due("one of two is a FIT", x.fits(), 1);
    }

    private void askingForFits() {
        c.of("Promise 20", "Of the i-th that HOLDS the number of KNOB k. NONE: not so many, no such KNOB set; BAD; NO.");
        RiverModel x = Checks.built("sa,0,0;");
        x.knob(1, 0, 1, 3, 2, 2);
        c.due("fit(0, 1)", x.fit(0, 1), 3);
        c.due("fit(1, 1)", x.fit(1, 1), 5);
        c.due("fit(2, 1)", x.fit(2, 1), NONE);
        c.due("fit(most, 1)", x.fit(MOST, 1), NONE);
        c.due("fit(0, 0)", x.fit(0, 0), NONE);
        c.due("fit(2, 0)", x.fit(2, 0), NONE);
        int[] ks = {-1, 2, LEAST, MOST};
        for (int k : ks) {
            c.due("fit(0, " + k + ")", x.fit(0, k), BAD);
            c.due("fit(2, " + k + ")", x.fit(2, k), BAD);
            c.due("fit(0, " + k + ") of no MODEL", new RiverModel().fit(0, k), BAD);
        }
        for (int k = 0; k <= 1; k++) {
            c.due("fit(-1, " + k + ")", x.fit(-1, k), BAD);
            c.due("fit(least, " + k + ")", x.fit(LEAST, k), BAD);
            c.due("fit(-1, " + k + ") of no MODEL", new RiverModel().fit(-1, k), BAD);
            c.due("fit(0, " + k + ") of no MODEL", new RiverModel().fit(0, k), NO);
            c.due("fit(most, " + k + ") of no MODEL", new RiverModel().fit(MOST, k), NO);
        }
    }

    private void taking() {
        c.of("Promise 21", "(THE RUN, KEPT ones, what is SWAPPED, START B as by build(); GAUGES, what is SEEN, KNOBS stay): 0. NONE; BAD; NO.");
        c.due("take(-1) of no MODEL", new RiverModel().take(-1), BAD);
        c.due("take(0) of no MODEL", new RiverModel().take(0), NO);
        c.due("take(most) of no MODEL", new RiverModel().take(MOST), NO);
        RiverModel x = Checks.built("sa,0,40;sb,0,0;gab,1;zb;");
        x.knob(0, 0, 1, 50, 10, 3);
        x.gauge(3, 1, 0);
        x.see(3, 95, 7);
        x.ends(100000);
        x.gate(0, 0);
        x.run(96);
        x.keep();
        x.keep();
        x.keep();
        x.startB(0, 1);
        Checks.swap(x, 3, "za;");
        int[] refused = {-1, LEAST, 3, MOST};
        for (int i : refused) {
            c.due("take(" + i + ")", x.take(i), i < 0 ? BAD : NONE);
        }
        int[] before = {3, 4, 2, 1, 96, 1, 1, 1, 3};
        for (int what = 0; what <= 8; what++) {
            c.due("refused: count(" + what + ")", x.count(what), before[what]);
        }
        c.due("refused: item(0, 4)", x.item(0, 4), 40);
        c.due("take(2)", x.take(2), 0);
        int[] after = {3, 4, 2, 1, 0, 1, 1, 1, 0};
        for (int what = 0; what <= 8; what++) {
            c.due("taken: count(" + what + ")", x.count(what), after[what]);
        }
        c.due("taken: item(0, 4)", x.item(0, 4), 70);
        c.due("taken: has(0, 0)", x.has(0, 0), 70);
        c.due("taken: book(5)", x.book(5), 70);
        c.due("taken: OPENING", x.gate(0, 5), 5);
        c.due("taken: START B", x.startB(0, 70), 70);
        c.due("taken: back()", x.back(), NO);
        c.due("taken: laySwap()", x.laySwap(), NO);
        c.due("taken: SEEN", x.see(3, 95, 7), 7);
        c.due("taken: fits()", x.fits(), 3);
        c.due("taken: take(0)", x.take(0), 0);
        c.due("taken: item(0, 4)", x.item(0, 4), 50);
    }

    private void takingTheLast() {
        c.of("Promise 21", "THE MODEL becomes that of the i-th FIT that HOLDS");
        RiverModel x = Checks.built("sa,0,6;sb,0,0;");
        x.knob(0, 1, 1, 100, 3, 16);
        x.knob(1, 0, 0, 7, 2, 16);
        c.due("take(256)", x.take(256), NONE);
        c.due("take(255)", x.take(255), 0);
        c.due("item(1, 4)", x.item(1, 4), 145);
        c.due("item(0, 3)", x.item(0, 3), 37);
        c.due("take(0)", x.take(0), 0);
        c.due("item(1, 4)", x.item(1, 4), 100);
        c.due("item(0, 3)", x.item(0, 3), 7);
    }

    private void bookOfATakenModel() {
        c.of("Promise 21", "(THE RUN, KEPT ones, what is SWAPPED, START B as by build()");
        RiverModel x = Checks.built("sa,0,50;sb,0,7;sc,0,0;ra,100;ea,10;zb;tac,3;");
        x.weather(0, 0, 30, 10);
        x.run(1);
        c.due("take(0)", x.take(0), 0);
        for (int what = 0; what <= 5; what++) {
            c.due("book(" + what + ")", x.book(what), what == 3 || what == 5 ? 57 : 0);
        }
        c.due("flow(3): no HOUR was", x.flow(3), NO);
        x.run(3);
        c.due("has(2, 0): nothing was under way from ahead", x.has(2, 0), 0);
        x.run(1);
        c.due("has(2, 0)", x.has(2, 0), 70);
    }
}
