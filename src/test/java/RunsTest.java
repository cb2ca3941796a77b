/** Promises 7 to 13: weather, anew, run, has, flow, gate, book; and how each kind of ITEM acts. */
public final class RunsTest {
    private static final Checks C = new Checks("RunsTest");

    public static void main(String[] args) {
        weathers();
        hours();
        hasAndFlow();
        gates();
        books();
        leaks();
        overflows();
        melting();
        reaches();
        rains();
        evaporation();
        order();
        noWaterIsLost();
        C.end();
    }

    private static void weathers() {
        RiverModel x = new RiverModel();
        C.due("weather(0, 0, 0, -30)", x.weather(0, 0, 0, -30), 0);
        C.due("weather(1, 95, 10000, 40)", x.weather(1, 95, 10000, 40), 0);
        C.due("weather(-1, 0, 0, 0)", x.weather(-1, 0, 0, 0), RiverModel.BAD);
        C.due("weather(2, 0, 0, 0)", x.weather(2, 0, 0, 0), RiverModel.BAD);
        C.due("weather(0, -1, 0, 0)", x.weather(0, -1, 0, 0), RiverModel.BAD);
        C.due("weather(0, 96, 0, 0)", x.weather(0, 96, 0, 0), RiverModel.BAD);
        C.due("weather(0, 0, -1, 0)", x.weather(0, 0, -1, 0), RiverModel.BAD);
        C.due("weather(0, 0, 10001, 0)", x.weather(0, 0, 10001, 0), RiverModel.BAD);
        C.due("weather(0, 0, 0, -31)", x.weather(0, 0, 0, -31), RiverModel.BAD);
        C.due("weather(0, 0, 0, 41)", x.weather(0, 0, 0, 41), RiverModel.BAD);
        x = Checks.built("sa,0,0;ra,100;");
        x.weather(0, 0, 10000, 40);
        x.weather(1, 1, 10000, 40);
        x.weather(0, 1, 10001, 40);
        x.run(1);
        C.due("A counts for the run", x.flow(1), 10000);
        x.run(1);
        C.due("B does not, nor what is bad", x.flow(1), 0);
    }

    private static void hours() {
        RiverModel x = new RiverModel();
        C.due("anew() without a model", x.anew(), RiverModel.NO);
        C.due("run(1) without a model", x.run(1), RiverModel.NO);
        C.due("run(97) without a model", x.run(97), RiverModel.BAD);
        x = Checks.built("sa,0,7;za;");
        C.due("run(0)", x.run(0), RiverModel.BAD);
        C.due("run(-1)", x.run(-1), RiverModel.BAD);
        C.due("run(97)", x.run(97), RiverModel.BAD);
        C.due("run(2)", x.run(2), 2);
        C.due("run(95)", x.run(95), RiverModel.FULL);
        C.due("nothing changes", x.count(4), 2);
        C.due("run(94)", x.run(94), 96);
        C.due("run(1) at the end", x.run(1), RiverModel.FULL);
        C.due("book(2)", x.book(2), 7);
        C.due("anew()", x.anew(), 96);
        C.due("anew() again", x.anew(), 0);
        C.due("book(2) anew", x.book(2), 0);
        C.due("has(0, 0) anew", x.has(0, 0), 7);
        C.due("run(96)", x.run(96), 96);
    }

    private static void hasAndFlow() {
        RiverModel x = new RiverModel();
        C.due("has(16, 0) without a model", x.has(16, 0), RiverModel.BAD);
        C.due("has(0, 0) without a model", x.has(0, 0), RiverModel.NO);
        C.due("flow(40) without a model", x.flow(40), RiverModel.BAD);
        C.due("flow(0) without a model", x.flow(0), RiverModel.NO);
        x = Checks.built("sb,0,9;sd,0,0;tbd,2;");
        C.due("has(1, 0)", x.has(1, 0), 9);
        C.due("has(0, 0)", x.has(0, 0), RiverModel.NO);
        C.due("has(15, 1)", x.has(15, 1), RiverModel.NO);
        C.due("has(-1, 0)", x.has(-1, 0), RiverModel.BAD);
        C.due("has(16, 0)", x.has(16, 0), RiverModel.BAD);
        C.due("has(1, 2)", x.has(1, 2), RiverModel.BAD);
        C.due("has(1, -1)", x.has(1, -1), RiverModel.BAD);
        C.due("flow(2) ahead of all hours", x.flow(2), RiverModel.NO);
        C.due("flow(-1)", x.flow(-1), RiverModel.BAD);
        C.due("flow(40)", x.flow(40), RiverModel.BAD);
        x.run(1);
        C.due("flow(2)", x.flow(2), 9);
        C.due("flow(0) of a store", x.flow(0), 0);
        C.due("flow(3)", x.flow(3), RiverModel.NO);
        C.due("has(3, 1)", x.has(3, 1), 9);
        C.due("has(1, 1)", x.has(1, 1), 0);
        x.run(1);
        C.due("flow(2) in the next hour", x.flow(2), 0);
        x.anew();
        C.due("flow(2) anew", x.flow(2), RiverModel.NO);
    }

    private static void gates() {
        RiverModel x = new RiverModel();
        C.due("gate(0, 11) without a model", x.gate(0, 11), RiverModel.BAD);
        C.due("gate(0, 1) without a model", x.gate(0, 1), RiverModel.NO);
        x = Checks.built("sa,0,100;sb,0,0;gab,3;zb;gba,4;gab,7;");
        C.due("count(3)", x.count(3), 3);
        C.due("gate(2, 0)", x.gate(2, 0), 5);
        C.due("gate(2, 0) again", x.gate(2, 0), 0);
        C.due("gate(3, 0)", x.gate(3, 0), RiverModel.NO);
        C.due("gate(4, 0)", x.gate(4, 0), RiverModel.BAD);
        C.due("gate(-1, 0)", x.gate(-1, 0), RiverModel.BAD);
        C.due("gate(0, -1)", x.gate(0, -1), RiverModel.BAD);
        C.due("gate(0, 11)", x.gate(0, 11), RiverModel.BAD);
        x.run(1);
        C.due("opening 5 times 3", x.flow(2), 15);
        C.due("the second gate has nothing", x.flow(4), 0);
        C.due("the third is shut", x.flow(5), 0);
        C.due("gate(0, 10)", x.gate(0, 10), 5);
        C.due("gate(2, 10)", x.gate(2, 10), 0);
        x.run(1);
        C.due("opening 10 times 3", x.flow(2), 30);
        C.due("all of it at most", x.flow(5), 55);
        C.due("has(0, 0)", x.has(0, 0), 0);
        C.due("has(1, 0)", x.has(1, 0), 55);
        x.anew();
        C.due("anew: openings are 5", x.gate(0, 1), 5);
        C.due("anew: openings are 5", x.gate(2, 1), 5);
    }

    private static void books() {
        RiverModel x = new RiverModel();
        C.due("book(-1)", x.book(-1), RiverModel.BAD);
        C.due("book(6)", x.book(6), RiverModel.BAD);
        C.due("book(5) without a model", x.book(5), RiverModel.NO);
        x = Checks.built("sa,0,30;sb,0,12;ra,50;ea,2;tab,3;zb;");
        x.weather(0, 0, 21, 10);
        x.run(1);
        long[] wants = {10, 2, 12, 0, 38, 42};
        for (int what = 0; what <= 5; what++) {
            C.due("book(" + what + ")", x.book(what), wants[what]);
        }
        x.run(3);
        C.due("book(2) when it came", x.book(2), 50);
        C.due("book(4) when it came", x.book(4), 0);
        C.due("book(5) stays", x.book(5), 42);
    }

    private static void leaks() {
        RiverModel x = Checks.built("sa,0,100;sb,0,0;lab,1,3,20;");
        x.run(1);
        C.due("80 by 3, cut", x.flow(2), 26);
        C.due("has(1, 0)", x.has(1, 0), 26);
        x = Checks.built("sa,0,20;sb,0,0;lab,1,1,20;");
        x.run(1);
        C.due("no more than h", x.flow(2), 0);
        x = Checks.built("sa,0,3;sb,0,0;lab,1,1,20;");
        x.run(1);
        C.due("less than h", x.flow(2), 0);
        x = Checks.built("sa,0,21;sb,0,0;lab,1,1,20;");
        x.run(1);
        C.due("one more than h", x.flow(2), 1);
        x = Checks.built("sa,0,21;sb,0,0;lab,0,9,0;");
        x.run(1);
        C.due("p is 0", x.flow(2), 0);
        x = Checks.built("sa,0,1000000;sb,0,0;lab,999,1000,0;");
        x.run(1);
        C.due("a great store", x.flow(2), 999000);
    }

    private static void overflows() {
        RiverModel x = Checks.built("sa,60,100;sb,0,0;oab;");
        x.run(1);
        C.due("above its capacity", x.flow(2), 40);
        C.due("has(0, 0)", x.has(0, 0), 60);
        x.run(1);
        C.due("no more then", x.flow(2), 0);
    }

    private static void melting() {
        RiverModel x = Checks.built("sa,0,50;sb,0,0;mab,3;");
        x.weather(0, 0, 0, 0);
        x.weather(0, 1, 0, 1);
        x.weather(0, 2, 0, -5);
        x.weather(0, 3, 0, 12);
        x.weather(0, 4, 0, 12);
        long[] wants = {0, 3, 0, 36, 11};
        for (long want : wants) {
            x.run(1);
            C.due("melting", x.flow(2), want);
        }
    }

    private static void reaches() {
        for (int h = 1; h <= 12; h++) {
            RiverModel x = Checks.built("sa,0,50;sb,0,0;tab," + h + ";");
            x.run(h);
            C.due("under way, h " + h, x.has(1, 1), 50);
            C.due("not there yet, h " + h, x.has(1, 0), 0);
            x.run(1);
            C.due("there, h " + h, x.has(1, 0), 50);
            C.due("no more under way, h " + h, x.has(1, 1), 0);
        }
        RiverModel x = Checks.built("sa,0,50;sb,0,0;sc,0,0;tab,1;tbc,1;zc;");
        x.run(2);
        C.due("what comes acts at once", x.flow(4), 50);
        x.run(1);
        C.due("and goes on", x.flow(5), 50);
        x = Checks.built("sa,0,50;sb,0,0;tab,1;tba,1;");
        for (int hour = 0; hour < 96; hour++) {
            x.run(1);
            C.due("to and fro, to b", x.has(1, 1), hour % 2 == 0 ? 50 : 0);
            C.due("to and fro, to a", x.has(0, 1), hour % 2 == 0 ? 0 : 50);
            C.due("to and fro, all", x.book(4), 50);
        }
        x = Checks.built("sa,0,0;sb,0,0;ra,100;tab,12;lba,1,2,0;");
        for (int hour = 0; hour < 96; hour++) {
            x.weather(0, hour, hour + 1, 10);
        }
        x.run(12);
        C.due("the first twelve are under way", x.has(1, 1), 78);
        x.run(1);
        C.due("the first is there, the thirteenth under way", x.has(1, 1), 90);
    }

    private static void rains() {
        RiverModel x = Checks.built("sa,0,0;ra,33;na,67;");
        x.weather(0, 0, 199, 1);
        x.weather(0, 1, 199, 0);
        x.weather(0, 2, 10000, -30);
        x.weather(0, 3, 2, 40);
        long[][] wants = {{65, 0}, {0, 133}, {0, 6700}, {0, 0}};
        for (long[] want : wants) {
            x.run(1);
            C.due("rain", x.flow(1), want[0]);
            C.due("snow", x.flow(2), want[1]);
        }
        C.due("has(0, 0)", x.has(0, 0), 65 + 133 + 6700);
        C.due("book(0)", x.book(0), 65 + 133 + 6700);
    }

    private static void evaporation() {
        RiverModel x = Checks.built("sa,0,20;ea,13;");
        x.weather(0, 0, 0, 3);
        x.weather(0, 1, 0, 0);
        x.weather(0, 2, 0, -3);
        x.weather(0, 3, 0, 40);
        long[] wants = {3, 0, 0, 17};
        for (long want : wants) {
            x.run(1);
            C.due("evaporation", x.flow(1), want);
        }
        C.due("book(1)", x.book(1), 20);
    }

    private static void order() {
        RiverModel x = Checks.built("sa,10,30;sb,5,0;sc,0,0;lbc,1,1,0;oab;obc;");
        x.run(1);
        C.due("the leak found nothing", x.flow(3), 0);
        C.due("then came the overflow", x.flow(4), 20);
        C.due("and went on", x.flow(5), 15);
        x.run(1);
        C.due("the leak finds what is left", x.flow(3), 5);
    }

    private static void noWaterIsLost() {
        RiverModel x = Checks.built("sa,500,90;sb,80,70;sc,9,0;ra,80;nb,90;lab,3,7,11;obc;mba,2;gac,9;tcb,5;ec,7;ea,3;zb;");
        for (int hour = 0; hour < 96; hour++) {
            x.weather(0, hour, hour * 37 % 301, hour * 7 % 41 - 15);
        }
        for (int hour = 0; hour < 96; hour++) {
            x.run(1);
            C.due("the book in hour " + hour, x.book(1) + x.book(2) + x.book(3) + x.book(4), x.book(0) + x.book(5));
        }
        C.due("there was some of each", x.book(1) > 0 && x.book(2) > 0 && x.book(0) > 0 ? 1 : 0, 1);
    }
}
