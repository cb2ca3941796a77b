/** Promises 14 to 21: gauge, reads, see, ends, knob, fits, fit, take. */
public final class GaugesTest {
    private static final Checks C = new Checks("GaugesTest");

    public static void main(String[] args) {
        settingGauges();
        reading();
        seeing();
        endsOfReadings();
        knobs();
        fitsWithoutKnobs();
        lattices();
        noFits();
        bothKnobsOnOneNumber();
        gaps();
        openingsOfTrials();
        taking();
        knobOfALostNumber();
        C.end();
    }

    private static void settingGauges() {
        RiverModel x = new RiverModel();
        C.due("gauge(0, 0, 0) without a model", x.gauge(0, 0, 0), RiverModel.NO);
        C.due("gauge(0, 1, 16) without a model", x.gauge(0, 1, 16), RiverModel.BAD);
        x = Checks.built("sa,0,7;sc,0,0;za;");
        C.due("gauge(0, 0, 2)", x.gauge(0, 0, 2), 0);
        C.due("gauge(3, 1, 2)", x.gauge(3, 1, 2), 0);
        C.due("gauge(4, 0, 0)", x.gauge(4, 0, 0), RiverModel.BAD);
        C.due("gauge(-1, 0, 0)", x.gauge(-1, 0, 0), RiverModel.BAD);
        C.due("gauge(0, 2, 0)", x.gauge(0, 2, 0), RiverModel.BAD);
        C.due("gauge(0, -1, 0)", x.gauge(0, -1, 0), RiverModel.BAD);
        C.due("gauge(0, 0, 40)", x.gauge(0, 0, 40), RiverModel.BAD);
        C.due("gauge(0, 0, -1)", x.gauge(0, 0, -1), RiverModel.BAD);
        C.due("gauge(0, 1, 16)", x.gauge(0, 1, 16), RiverModel.BAD);
        C.due("gauge(0, 0, 16)", x.gauge(0, 0, 16), RiverModel.NO);
        C.due("gauge(0, 0, 3)", x.gauge(0, 0, 3), RiverModel.NO);
        C.due("gauge(0, 1, 1)", x.gauge(0, 1, 1), RiverModel.NO);
        C.due("count(6)", x.count(6), 2);
        x.see(0, 0, 9);
        x.see(0, 95, 9);
        x.see(3, 95, 9);
        C.due("count(7)", x.count(7), 3);
        C.due("a refused gauge()", x.gauge(0, 1, 1), RiverModel.NO);
        C.due("leaves what is seen", x.count(7), 3);
        C.due("gauge(0, 0, 2) again", x.gauge(0, 0, 2), 0);
        C.due("what it has seen goes", x.count(7), 1);
        C.due("what another has seen stays", x.see(3, 95, -1), 9);
    }

    private static void reading() {
        RiverModel x = Checks.built("sa,0,30;sb,0,0;lab,1,3,0;");
        C.due("reads(4)", x.reads(4), RiverModel.BAD);
        C.due("reads(-1)", x.reads(-1), RiverModel.BAD);
        C.due("reads(0), not set", x.reads(0), RiverModel.NO);
        x.gauge(0, 0, 2);
        x.gauge(1, 1, 0);
        C.due("reads(0), no hour was", x.reads(0), RiverModel.NO);
        C.due("reads(1), no hour was", x.reads(1), RiverModel.NO);
        x.run(1);
        C.due("reads(0)", x.reads(0), 10);
        C.due("reads(1)", x.reads(1), 20);
        x.gauge(1, 1, 1);
        C.due("reads(1) of another store", x.reads(1), 10);
        C.due("reads(2), not set", x.reads(2), RiverModel.NO);
        x.run(1);
        C.due("reads(0) in the next hour", x.reads(0), 6);
    }

    private static void seeing() {
        RiverModel x = new RiverModel();
        C.due("see(0, 0, 0) without a model", x.see(0, 0, 0), -102);
        x = Checks.built("sa,0,7;");
        C.due("see(0, 0, 0), not set", x.see(0, 0, 0), -102);
        C.due("see(0, 0, -2), not set", x.see(0, 0, -2), -100);
        x.gauge(0, 1, 0);
        C.due("see(0, 0, 10000000)", x.see(0, 0, 10000000), -1);
        C.due("see(0, 0, 0)", x.see(0, 0, 0), 10000000);
        C.due("see(0, 0, -1)", x.see(0, 0, -1), 0);
        C.due("see(0, 0, -1) again", x.see(0, 0, -1), -1);
        C.due("see(0, 0, 10000001)", x.see(0, 0, 10000001), -100);
        C.due("see(0, 0, -2)", x.see(0, 0, -2), -100);
        C.due("see(0, 96, 0)", x.see(0, 96, 0), -100);
        C.due("see(0, -1, 0)", x.see(0, -1, 0), -100);
        C.due("see(4, 0, 0)", x.see(4, 0, 0), -100);
        C.due("see(-1, 0, 0)", x.see(-1, 0, 0), -100);
        C.due("see(1, 0, 0), not set", x.see(1, 0, 0), -102);
        C.due("count(7)", x.count(7), 0);
    }

    private static void endsOfReadings() {
        RiverModel x = new RiverModel();
        C.due("ends(100000)", x.ends(100000), 0);
        C.due("ends(100001)", x.ends(100001), RiverModel.BAD);
        C.due("ends(-1)", x.ends(-1), RiverModel.BAD);
        C.due("ends(0)", x.ends(0), 100000);
        x = Checks.built("sa,0,50;");
        x.gauge(0, 1, 0);
        x.see(0, 3, 45);
        x.ends(4);
        C.due("off by 5", x.fits(), 0);
        x.ends(5);
        C.due("off by 5, it may be", x.fits(), 1);
        x.see(0, 3, 55);
        C.due("off by 5 the other way", x.fits(), 1);
        x.see(0, 3, 56);
        C.due("off by 6", x.fits(), 0);
    }

    private static void knobs() {
        RiverModel x = new RiverModel();
        C.due("knob without a model", x.knob(0, 0, 0, 0, 1, 1), RiverModel.NO);
        C.due("bad knob without a model", x.knob(2, 0, 0, 0, 1, 1), RiverModel.BAD);
        x = Checks.built("sa,0,7;sb,0,0;lab,1,2,3;oab;gab,1;");
        C.due("edges", x.knob(0, 2, 2, 1000000, 1000000, 16), 0);
        C.due("edges", x.knob(1, 0, 1, 0, 1, 1), 0);
        C.due("count(5)", x.count(5), 2);
        C.due("k", x.knob(2, 0, 0, 0, 1, 1), RiverModel.BAD);
        C.due("k", x.knob(-1, 0, 0, 0, 1, 1), RiverModel.BAD);
        C.due("i", x.knob(0, 40, 0, 0, 1, 1), RiverModel.BAD);
        C.due("i", x.knob(0, -1, 0, 0, 1, 1), RiverModel.BAD);
        C.due("j", x.knob(0, 2, 3, 0, 1, 1), RiverModel.BAD);
        C.due("j", x.knob(0, 2, -1, 0, 1, 1), RiverModel.BAD);
        C.due("from", x.knob(0, 2, 0, -1, 1, 1), RiverModel.BAD);
        C.due("from", x.knob(0, 2, 0, 1000001, 1, 1), RiverModel.BAD);
        C.due("step", x.knob(0, 2, 0, 0, 0, 1), RiverModel.BAD);
        C.due("step", x.knob(0, 2, 0, 0, 1000001, 1), RiverModel.BAD);
        C.due("many", x.knob(0, 2, 0, 0, 1, 17), RiverModel.BAD);
        C.due("many", x.knob(0, 2, 0, 0, 1, -1), RiverModel.BAD);
        C.due("no such item", x.knob(0, 5, 0, 0, 1, 1), RiverModel.NO);
        C.due("no such number of a store", x.knob(0, 0, 2, 0, 1, 1), RiverModel.NO);
        C.due("no such number of an overflow", x.knob(0, 3, 0, 0, 1, 1), RiverModel.NO);
        C.due("no such number of a gate", x.knob(0, 4, 1, 0, 1, 1), RiverModel.NO);
        C.due("none, asked as for one", x.knob(0, 0, 2, 0, 1, 0), RiverModel.NO);
        C.due("none, asked as for one", x.knob(0, 0, 0, 0, 0, 0), RiverModel.BAD);
        C.due("nothing changes", x.count(5), 2);
        C.due("none", x.knob(0, 0, 0, 0, 1, 0), 0);
        C.due("count(5)", x.count(5), 1);
        C.due("fit(0, 0) of no knob", x.fit(0, 0), RiverModel.NONE);
        C.due("fit(0, 1)", x.fit(0, 1), 0);
    }

    private static void fitsWithoutKnobs() {
        RiverModel x = new RiverModel();
        C.due("fits() without a model", x.fits(), RiverModel.NO);
        C.due("fit(0, 0) without a model", x.fit(0, 0), RiverModel.NO);
        C.due("fit(-1, 0) without a model", x.fit(-1, 0), RiverModel.BAD);
        C.due("take(0) without a model", x.take(0), RiverModel.NO);
        C.due("take(-1) without a model", x.take(-1), RiverModel.BAD);
        x = Checks.built("sa,0,7;");
        C.due("fits() with nothing seen", x.fits(), 1);
        C.due("fit(0, 0)", x.fit(0, 0), RiverModel.NONE);
        C.due("fit(0, 2)", x.fit(0, 2), RiverModel.BAD);
        C.due("fit(0, -1)", x.fit(0, -1), RiverModel.BAD);
        C.due("take(1)", x.take(1), RiverModel.NONE);
        C.due("take(0)", x.take(0), 0);
        C.due("take(2147483647)", x.take(Integer.MAX_VALUE), RiverModel.NONE);
    }

    private static void lattices() {
        RiverModel x = Checks.built("sa,0,100;sb,0,0;lab,1,10,0;");
        x.gauge(0, 0, 2);
        x.knob(0, 2, 0, 1, 1, 3);
        x.knob(1, 2, 2, 0, 10, 3);
        C.due("all points", x.fits(), 9);
        int[][] points = {{1, 0}, {1, 10}, {1, 20}, {2, 0}, {2, 10}, {2, 20}, {3, 0}, {3, 10}, {3, 20}};
        for (int i = 0; i < points.length; i++) {
            C.due("fit(" + i + ", 0)", x.fit(i, 0), points[i][0]);
            C.due("fit(" + i + ", 1)", x.fit(i, 1), points[i][1]);
        }
        C.due("fit(9, 0)", x.fit(9, 0), RiverModel.NONE);
        x.see(0, 0, 18);
        x.ends(2);
        C.due("16, 18, 20 hold", x.fits(), 3);
        C.due("fit(0, 0)", x.fit(0, 0), 2);
        C.due("fit(0, 1)", x.fit(0, 1), 0);
        C.due("fit(2, 1)", x.fit(2, 1), 20);
        C.due("fit(3, 1)", x.fit(3, 1), RiverModel.NONE);
        x.see(0, 1, 15);
        x.ends(1);
        C.due("18 holds, and 18 - 9 % cut", x.fits(), 1);
        C.due("fit(0, 0)", x.fit(0, 0), 2);
        C.due("fit(0, 1)", x.fit(0, 1), 10);
        C.due("the model is as it was", x.item(2, 3), 1);
    }

    private static void noFits() {
        RiverModel x = Checks.built("sa,0,100;sb,0,0;lab,1,4,0;tab,1;");
        x.knob(0, 2, 0, 0, 1, 16);
        C.due("p is q at most", x.fits(), 5);
        x.knob(1, 2, 1, 0, 1, 3);
        C.due("q 0: none, 1: two, 2: three", x.fits(), 5);
        C.due("fit(0, 1)", x.fit(0, 1), 1);
        C.due("fit(4, 0)", x.fit(4, 0), 2);
        x.knob(0, 3, 0, 0, 1, 16);
        x.knob(1, 0, 0, 999999, 1, 3);
        C.due("travel 1 to 12, capacity to 1000000", x.fits(), 24);
        C.due("fit(0, 0)", x.fit(0, 0), 1);
        C.due("fit(23, 0)", x.fit(23, 0), 12);
        x.knob(1, 0, 0, 1000000, 1000000, 16);
        C.due("far beyond", x.fits(), 12);
    }

    private static void bothKnobsOnOneNumber() {
        RiverModel x = Checks.built("sa,0,100;");
        x.gauge(0, 1, 0);
        x.knob(0, 0, 1, 10, 10, 2);
        x.knob(1, 0, 1, 50, 10, 2);
        x.see(0, 0, 60);
        C.due("the later knob's number is in place", x.fits(), 2);
        C.due("fit(1, 0)", x.fit(1, 0), 20);
        C.due("fit(1, 1)", x.fit(1, 1), 60);
    }

    private static void gaps() {
        RiverModel x = Checks.built("sa,0,8;sb,0,0;lab,1,2,0;");
        x.gauge(0, 1, 0);
        x.gauge(1, 1, 1);
        x.see(0, 1, 2);
        x.see(1, 0, 4);
        C.due("gaps ask for nothing", x.fits(), 1);
        x.see(1, 95, 7);
        C.due("the last hour", x.fits(), 1);
        x.see(1, 95, 6);
        C.due("the last hour is off", x.fits(), 0);
        x.see(1, 95, -1);
        C.due("a gap again", x.fits(), 1);
        x.see(1, 0, 5);
        C.due("one of several is off", x.fits(), 0);
    }

    private static void openingsOfTrials() {
        RiverModel x = Checks.built("sa,0,90;sb,0,0;gab,2;");
        x.gauge(0, 0, 2);
        x.gate(0, 10);
        x.run(4);
        x.see(0, 0, 10);
        C.due("the trial has openings 5 and begins with hour 0", x.fits(), 1);
        C.due("the run goes on", x.count(4), 4);
        C.due("the run's flow stays", x.reads(0), 20);
    }

    private static void taking() {
        RiverModel x = Checks.built("sa,0,90;sb,0,0;gab,2;lab,1,10,0;");
        x.gauge(0, 0, 2);
        x.see(0, 0, 15);
        x.knob(0, 2, 0, 1, 1, 8);
        x.knob(1, 0, 1, 100, 50, 3);
        x.startB(0, 1);
        x.gate(0, 9);
        x.run(5);
        x.keep();
        Checks.swap(x, 3, "oab;");
        C.due("take(3)", x.take(3), RiverModel.NONE);
        C.due("nothing changes", x.count(4), 5);
        C.due("nothing changes", x.count(8), 1);
        C.due("take(1)", x.take(1), 0);
        C.due("the model is the fit", x.item(2, 3), 3);
        C.due("the model is the fit", x.item(0, 4), 150);
        C.due("the run begins", x.count(4), 0);
        C.due("with its start", x.has(0, 0), 150);
        C.due("with openings 5", x.gate(0, 5), 5);
        C.due("kept ones go", x.count(8), 0);
        C.due("back()", x.back(), RiverModel.NO);
        C.due("what is swapped goes", x.laySwap(), RiverModel.NO);
        C.due("start B goes", x.startB(0, 150), 150);
        C.due("gauges stay", x.count(6), 1);
        C.due("seen stays", x.count(7), 1);
        C.due("knobs stay", x.count(5), 2);
        C.due("and the fits", x.fits(), 3);
    }

    private static void knobOfALostNumber() {
        RiverModel x = Checks.built("sa,0,90;sb,0,0;lab,1,10,0;");
        x.knob(0, 2, 2, 0, 1, 4);
        C.due("fits()", x.fits(), 4);
        C.due("swap", Checks.swap(x, 2, "mab,5;"), 0);
        x.laySwap();
        C.due("the knob stays", x.count(5), 1);
        C.due("an item with a number too many is not as told", x.fits(), 0);
        C.due("fit(0, 0)", x.fit(0, 0), RiverModel.NONE);
        C.due("take(0)", x.take(0), RiverModel.NONE);
    }
}
