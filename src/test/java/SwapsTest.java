/** Promises 29 to 36: swap, swapped, laySwap, startB, blame, keep, back, count. */
public final class SwapsTest {
    private static final Checks C = new Checks("SwapsTest");

    public static void main(String[] args) {
        swapRefused();
        swapKinds();
        swapNames();
        swappedReadings();
        oneSwapAtATime();
        swappedStores();
        layingASwap();
        startsB();
        blameRefused();
        blames();
        blameOfASwappedStart();
        keeping();
        keptWhole();
        counts();
        C.end();
    }

    private static void swapRefused() {
        RiverModel x = new RiverModel();
        Checks.put(x, "za;");
        C.due("swap(0) without a model", x.swap(0), RiverModel.NO);
        C.due("swap(40) without a model", x.swap(40), RiverModel.BAD);
        x = Checks.built("sa,5,5;sb,5,5;oab;");
        C.due("swap(-1)", Checks.swap(x, -1, "oba;"), RiverModel.BAD);
        C.due("swap(40)", Checks.swap(x, 40, "oba;"), RiverModel.BAD);
        C.due("swap(3)", Checks.swap(x, 3, "oba;"), RiverModel.NO);
        C.due("no item", Checks.swap(x, 2, ""), RiverModel.NO);
        C.due("no end", Checks.swap(x, 2, "oba"), RiverModel.NO);
        C.due("two items", Checks.swap(x, 2, "oba;oab;"), RiverModel.NO);
        C.due("one and a rest", Checks.swap(x, 2, "oba;o"), RiverModel.NO);
        C.due("not as told", Checks.swap(x, 2, "oaa;"), RiverModel.NO);
        C.due("not as told", Checks.swap(x, 2, "lab,2,1,0;"), RiverModel.NO);
        C.due("not as told", Checks.swap(x, 2, "tab,13;"), RiverModel.NO);
        C.due("no such name", Checks.swap(x, 2, "oac;"), RiverModel.NO);
        C.due("nothing is swapped", x.laySwap(), RiverModel.NO);
        C.due("as told", Checks.swap(x, 2, "oba;"), 0);
        C.due("refused then", Checks.swap(x, 2, "oaa;"), RiverModel.NO);
        C.due("what was swapped stays", x.laySwap(), 0);
        C.due("item(2, 1)", x.item(2, 1), 1);
    }

    private static void swapKinds() {
        RiverModel x = Checks.built("sa,5,5;sb,5,5;gab,1;oab;ra,1;");
        String[] plain = {"lab,1,1,1;", "oba;", "mab,1;", "tab,1;", "rb,1;", "na,1;", "ea,1;", "zb;"};
        for (String item : plain) {
            C.due(item + " for an overflow", Checks.swap(x, 3, item), 0);
            C.due(item + " for rain", Checks.swap(x, 4, item), 0);
            C.due(item + " for a gate", Checks.swap(x, 2, item), RiverModel.NO);
            C.due(item + " for a store", Checks.swap(x, 0, item), RiverModel.NO);
        }
        C.due("a gate for a gate", Checks.swap(x, 2, "gba,7;"), 0);
        C.due("a gate for an overflow", Checks.swap(x, 3, "gba,7;"), RiverModel.NO);
        C.due("a gate for a store", Checks.swap(x, 0, "gba,7;"), RiverModel.NO);
        C.due("a store for itself", Checks.swap(x, 0, "sa,7,7;"), 0);
        C.due("a store for another", Checks.swap(x, 0, "sb,7,7;"), RiverModel.NO);
        C.due("a new store for a store", Checks.swap(x, 0, "sc,7,7;"), RiverModel.NO);
        C.due("a store for an overflow", Checks.swap(x, 3, "sa,7,7;"), RiverModel.NO);
        C.due("a new store for an overflow", Checks.swap(x, 3, "sc,7,7;"), RiverModel.NO);
        C.due("a store beyond its numbers", Checks.swap(x, 0, "sa,1000001,7;"), RiverModel.NO);
    }

    private static void swapNames() {
        RiverModel x = Checks.built("sa,5,5;sb,5,5;oab;sc,5,5;obc;");
        C.due("c is told behind item 2", Checks.swap(x, 2, "oac;"), RiverModel.NO);
        C.due("c is told behind item 2", Checks.swap(x, 2, "zc;"), RiverModel.NO);
        C.due("c is told ahead of item 4", Checks.swap(x, 4, "oac;"), 0);
        C.due("c is told ahead of item 4", Checks.swap(x, 4, "zc;"), 0);
    }

    private static void swappedReadings() {
        RiverModel x = new RiverModel();
        C.due("swapped without a model", x.swapped(0, 1, 0), RiverModel.NO);
        C.due("bad swapped without a model", x.swapped(0, 97, 0), RiverModel.BAD);
        x = Checks.built("sa,0,100;sb,0,0;lab,1,10,0;tab,2;");
        x.gauge(0, 1, 1);
        x.gauge(1, 0, 2);
        C.due("nothing is swapped", x.swapped(0, 1, 0), RiverModel.NO);
        C.due("swap(3)", Checks.swap(x, 3, "tab,3;"), 0);
        C.due("not set", x.swapped(2, 1, 0), RiverModel.NO);
        C.due("gauge", x.swapped(4, 1, 0), RiverModel.BAD);
        C.due("gauge", x.swapped(-1, 1, 0), RiverModel.BAD);
        C.due("n", x.swapped(0, 0, 0), RiverModel.BAD);
        C.due("n", x.swapped(0, 97, 0), RiverModel.BAD);
        C.due("what", x.swapped(0, 1, 2), RiverModel.BAD);
        C.due("what", x.swapped(0, 1, -1), RiverModel.BAD);
        C.due("alike till hour 2", x.swapped(0, 2, 0), RiverModel.NONE);
        C.due("alike till hour 2", x.swapped(0, 2, 1), 0);
        C.due("hour 2 is other", x.swapped(0, 3, 0), 2);
        C.due("90 fewer in it", x.swapped(0, 3, 1), -90);
        C.due("then alike", x.swapped(0, 96, 1), -90);
        C.due("the leak is alike", x.swapped(1, 96, 0), RiverModel.NONE);
        x.gate(0, 1);
        x.run(9);
        C.due("from hour 0, whatever the run does", x.swapped(0, 3, 0), 2);
        C.due("the run stays", x.count(4), 9);
        C.due("weather A", x.weather(1, 0, 500, 5), 0);
        C.due("weather A", x.swapped(0, 3, 1), -90);
    }

    private static void oneSwapAtATime() {
        RiverModel x = Checks.built("sa,0,100;sb,0,0;gab,1;zb;");
        x.gauge(0, 0, 2);
        C.due("swap(2)", Checks.swap(x, 2, "gab,3;"), 0);
        C.due("openings 5", x.swapped(0, 1, 1), 10);
        C.due("swap(3)", Checks.swap(x, 3, "ea,1;"), 0);
        C.due("the gate is as it was", x.swapped(0, 1, 1), 0);
    }

    private static void swappedStores() {
        RiverModel x = Checks.built("sa,50,100;sb,0,0;oab;");
        x.gauge(0, 0, 2);
        C.due("swap(0)", Checks.swap(x, 0, "sa,20,200;"), 0);
        C.due("capacity and start", x.swapped(0, 1, 1), 130);
    }

    private static void layingASwap() {
        RiverModel x = new RiverModel();
        C.due("laySwap() without a model", x.laySwap(), RiverModel.NO);
        x = Checks.built("sa,50,100;sb,0,0;gab,2;oab;");
        C.due("laySwap() of nothing", x.laySwap(), RiverModel.NO);
        x.gauge(0, 0, 3);
        x.see(0, 0, 4);
        x.knob(0, 2, 0, 1, 1, 1);
        x.startB(0, 7);
        x.gate(0, 1);
        x.run(3);
        x.keep();
        C.due("swap(0)", Checks.swap(x, 0, "sa,30,60;"), 0);
        C.due("laySwap()", x.laySwap(), 0);
        C.due("the model has it", x.item(0, 3), 30);
        C.due("and the rest", x.item(2, 0), 'g');
        C.due("stores", x.count(2), 2);
        C.due("gates", x.count(3), 1);
        C.due("the run begins", x.count(4), 0);
        C.due("by its start", x.has(0, 0), 60);
        C.due("openings 5", x.gate(0, 5), 5);
        C.due("kept ones go", x.count(8), 0);
        C.due("start B goes", x.startB(0, 60), 60);
        C.due("gauges stay", x.count(6), 1);
        C.due("seen stays", x.count(7), 1);
        C.due("knobs stay", x.count(5), 1);
        C.due("what is swapped goes", x.laySwap(), RiverModel.NO);
        x.run(1);
        C.due("60, 10 through the gate, 30 stay", x.reads(0), 20);
        C.due("another kind", Checks.swap(x, 3, "za;"), 0);
        x.laySwap();
        x.run(1);
        C.due("the gauge reads the item that is there now", x.reads(0), 50);
        C.due("item(3, 2)", x.item(3, 2), RiverModel.NONE);
    }

    private static void startsB() {
        RiverModel x = new RiverModel();
        C.due("startB without a model", x.startB(0, 0), RiverModel.NO);
        C.due("bad startB without a model", x.startB(16, 0), RiverModel.BAD);
        x = Checks.built("sb,50,100;");
        C.due("startB(1, 1000000)", x.startB(1, 1000000), 100);
        C.due("startB(1, 0)", x.startB(1, 0), 1000000);
        C.due("startB(1, 1000001)", x.startB(1, 1000001), RiverModel.BAD);
        C.due("startB(1, -1)", x.startB(1, -1), RiverModel.BAD);
        C.due("startB(-1, 1)", x.startB(-1, 1), RiverModel.BAD);
        C.due("startB(16, 1)", x.startB(16, 1), RiverModel.BAD);
        C.due("startB(0, 1)", x.startB(0, 1), RiverModel.NO);
        C.due("startB(1, 5)", x.startB(1, 5), 0);
        C.due("start itself stays", x.book(5), 100);
        x.anew();
        C.due("the run too", x.has(1, 0), 100);
    }

    private static void blameRefused() {
        long bad = -1000000000000000000L;
        long no = -1000000000000000001L;
        RiverModel x = new RiverModel();
        C.due("blame without a model", x.blame(0, 0, 0), no);
        C.due("bad blame without a model", x.blame(0, 0, 4), bad);
        x = Checks.built("sa,0,9;");
        C.due("not set", x.blame(0, 0, 0), no);
        x.gauge(0, 1, 0);
        C.due("gauge", x.blame(4, 0, 0), bad);
        C.due("gauge", x.blame(-1, 0, 0), bad);
        C.due("h", x.blame(0, 96, 0), bad);
        C.due("h", x.blame(0, -1, 0), bad);
        C.due("part", x.blame(0, 0, 4), bad);
        C.due("part", x.blame(0, 0, -1), bad);
        C.due("blame(0, 95, 3)", x.blame(0, 95, 3), 0);
    }

    private static void parts(RiverModel x, int h, long weather, long start, long item) {
        C.due("blame of weather, hour " + h, x.blame(0, h, 0), weather);
        C.due("blame of start, hour " + h, x.blame(0, h, 1), start);
        C.due("blame of the item, hour " + h, x.blame(0, h, 2), item);
        C.due("blame of all, hour " + h, x.blame(0, h, 3), weather + start + item);
    }

    private static void blames() {
        RiverModel x = Checks.built("sa,0,100;sb,0,0;ra,100;lab,1,2,0;");
        x.gauge(0, 1, 1);
        x.weather(0, 0, 100, 10);
        parts(x, 0, -50, 0, 0);
        x.weather(1, 0, 300, 10);
        parts(x, 0, 100, 0, 0);
        x.startB(0, 40);
        parts(x, 0, 100, -30, 0);
        x.startB(1, 7);
        parts(x, 0, 100, -23, 0);
        C.due("swap", Checks.swap(x, 3, "lab,1,4,0;"), 0);
        parts(x, 0, 100, -23, -85);
        parts(x, 1, 150, -38, -107);
        x.run(50);
        x.gate(0, 3);
        parts(x, 0, 100, -23, -85);
    }

    private static void blameOfASwappedStart() {
        RiverModel x = Checks.built("sa,50,100;sb,0,0;oab;");
        x.gauge(0, 0, 2);
        x.startB(0, 80);
        C.due("swap", Checks.swap(x, 0, "sa,10,500;"), 0);
        parts(x, 0, 0, -20, 40);
    }

    private static void keeping() {
        RiverModel x = new RiverModel();
        C.due("keep() without a model", x.keep(), RiverModel.NO);
        C.due("back() without a model", x.back(), RiverModel.NO);
        x = Checks.built("sa,0,64;sb,0,0;lab,1,2,0;");
        C.due("back() of nothing", x.back(), RiverModel.NO);
        C.due("keep()", x.keep(), 1);
        x.run(1);
        C.due("keep()", x.keep(), 2);
        x.run(1);
        C.due("keep()", x.keep(), 3);
        x.run(1);
        C.due("keep()", x.keep(), RiverModel.FULL);
        C.due("has(0, 0)", x.has(0, 0), 8);
        C.due("back()", x.back(), 2);
        C.due("has(0, 0)", x.has(0, 0), 16);
        C.due("flow(2) of the last hour then", x.flow(2), 16);
        x.anew();
        C.due("anew() leaves what is kept", x.count(8), 2);
        C.due("back()", x.back(), 1);
        C.due("count(4)", x.count(4), 1);
        C.due("has(0, 0)", x.has(0, 0), 32);
        C.due("keep() again", x.keep(), 2);
        C.due("back()", x.back(), 1);
        C.due("back()", x.back(), 0);
        C.due("flow(2): no hour was", x.flow(2), RiverModel.NO);
        C.due("has(0, 0)", x.has(0, 0), 64);
        C.due("back() of nothing", x.back(), RiverModel.NO);
    }

    private static void keptWhole() {
        RiverModel x = Checks.built("sa,0,64;sb,0,0;ra,100;gab,1;ea,1;tba,4;za;");
        x.weather(0, 0, 10, 10);
        x.gate(0, 3);
        x.run(1);
        x.keep();
        x.gate(0, 9);
        x.run(7);
        C.due("back()", x.back(), 0);
        C.due("the opening", x.gate(0, 3), 3);
        C.due("rain", x.book(0), 10);
        C.due("air", x.book(1), 1);
        C.due("sea", x.book(2), 70);
        C.due("stores", x.book(3), 0);
        C.due("under way", x.book(4), 3);
        C.due("under way to a", x.has(0, 1), 3);
        C.due("hours", x.count(4), 1);
        C.due("flow", x.flow(3), 3);
        x.gate(0, 0);
        x.run(3);
        C.due("it is not due yet", x.book(2), 70);
        x.run(1);
        C.due("it comes when it is due, less what the air takes", x.book(2), 72);
    }

    private static void counts() {
        RiverModel x = new RiverModel();
        C.due("count(-1)", x.count(-1), RiverModel.BAD);
        C.due("count(9)", x.count(9), RiverModel.BAD);
        Checks.put(x, "sa,0,64;sb,0,0;gab,1;gba,2;");
        C.due("count(0)", x.count(0), 27);
        C.due("count(1) ahead of build()", x.count(1), 0);
        C.due("count(2) ahead of build()", x.count(2), 0);
        C.due("count(3) ahead of build()", x.count(3), 0);
        C.due("fault() builds nothing", x.fault(), RiverModel.NONE);
        C.due("count(1) ahead of build()", x.count(1), 0);
        x.build();
        x.run(6);
        x.knob(1, 0, 0, 0, 1, 1);
        x.gauge(0, 1, 0);
        x.gauge(1, 1, 0);
        x.gauge(1, 1, 1);
        x.see(0, 0, 0);
        x.see(1, 95, 5);
        x.see(1, 95, 6);
        x.see(1, 94, 6);
        x.keep();
        x.clear();
        int[] wants = {0, 4, 2, 2, 6, 1, 2, 3, 1};
        for (int what = 0; what <= 8; what++) {
            C.due("count(" + what + ")", x.count(what), wants[what]);
        }
    }
}
