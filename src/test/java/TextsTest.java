/** Promises 1 to 6: a new object, write, clear, fault, build, item. */
public final class TextsTest {
    private static final Checks C = new Checks("TextsTest");
    private static final String AB = "sa,9,8;sb,7,6;";

    public static void main(String[] args) {
        newObject();
        writing();
        clearing();
        faultsOfStores();
        faultsOfOthers();
        faultsOfPlaces();
        forty();
        building();
        whatBuildLeaves();
        items();
        C.end();
    }

    private static void newObject() {
        RiverModel x = new RiverModel();
        for (int what = 0; what <= 8; what++) {
            C.due("new: count(" + what + ")", x.count(what), 0);
        }
        C.due("new: fault()", x.fault(), RiverModel.NONE);
        C.due("new: build()", x.build(), RiverModel.NO);
        C.due("new: anew()", x.anew(), RiverModel.NO);
        C.due("new: has(0, 0)", x.has(0, 0), RiverModel.NO);
        C.due("new: weigh(0, 0)", x.weigh(0, 0), 0);
        C.due("new: rain(3, 23, 0)", x.rain(3, 23, 0), 0);
        C.due("new: ends(0)", x.ends(0), 0);
        C.due("new: clear()", x.clear(), 0);
    }

    private static void writing() {
        RiverModel x = new RiverModel();
        C.due("write(0, 1)", x.write(0, 1), RiverModel.BAD);
        C.due("write(9, 1)", x.write(9, 1), RiverModel.BAD);
        C.due("write(-1, 1)", x.write(-1, 1), RiverModel.BAD);
        C.due("count(0)", x.count(0), 0);
        C.due("write(2, 'xsa')", x.write(2, 0x787361L), 2);
        C.due("write(5, ',1,1;')", x.write(5, 0x2c312c313bL), 7);
        C.due("the lowest bytes count", x.fault(), RiverModel.NONE);
        C.due("write(8, -1)", x.write(8, -1L), 15);
        C.due("bytes above 127", x.fault(), 7);
        x.clear();
        for (int k = 1; k <= 49; k++) {
            C.due("write 8", x.write(8, 0L), 8 * k);
        }
        C.due("to 399", x.write(7, 0L), 399);
        C.due("beyond", x.write(2, 0L), RiverModel.FULL);
        C.due("bad ahead of full", x.write(9, 0L), RiverModel.BAD);
        C.due("to 400", x.write(1, 0L), 400);
        C.due("beyond 400", x.write(1, 0L), RiverModel.FULL);
        C.due("count(0)", x.count(0), 400);
    }

    private static void clearing() {
        RiverModel x = Checks.built("sa,1,1;");
        C.due("clear()", x.clear(), 7);
        C.due("clear() again", x.clear(), 0);
        C.due("fault() of nothing", x.fault(), RiverModel.NONE);
        C.due("the model stays", x.count(1), 1);
    }

    private static void fault(String text, int want) {
        RiverModel x = new RiverModel();
        Checks.put(x, text);
        C.due("fault() of " + text, x.fault(), want);
        C.due("build() of " + text, x.build() == RiverModel.NO ? 1 : 0, want == RiverModel.NONE ? 0 : 1);
    }

    private static void whole(String text) {
        fault(text, RiverModel.NONE);
    }

    private static void faultsOfStores() {
        whole("sa,1000000,1000000;");
        whole("sp,0,0;");
        whole("sa,0000001,0000000;");
        fault("sa,1000001,0;", 0);
        fault("sa,0,1000001;", 0);
        fault("sa,00000001,0;", 0);
        fault("sa,,0;", 0);
        fault("sa,1,;", 0);
        fault("sa,-1,0;", 0);
        fault("sa,+1,0;", 0);
        fault("sa, 1,0;", 0);
        fault("sa,1,0 ;", 0);
        fault("sa,1;", 0);
        fault("sa,1,2,3;", 0);
        fault("sa;", 0);
        fault("s,1,1;", 0);
        fault("sq,1,1;", 0);
        fault("sA,1,1;", 0);
        fault("s`,1,1;", 0);
        fault("sab,1,1;", 0);
        fault("sa,1:1;", 0);
        fault("sa,1,1;sa,2,2;", 7);
        fault("sa,1,1;sb,1,1;sa,2,2;", 14);
    }

    private static void other(String item, boolean isAsTold) {
        fault(AB + item, isAsTold ? RiverModel.NONE : AB.length());
    }

    private static void faultsOfOthers() {
        String[] asTold = {
            "lab,0,1,0;", "lba,1000,1000,1000000;", "lab,3,3,5;", "oab;", "mab,0;", "mab,1000;", "gab,0;", "gba,10000;",
            "tab,1;", "tab,12;", "ra,0;", "rb,100;", "na,0;", "nb,100;", "ea,0;", "eb,1000;", "za;", "zb;"};
        String[] notAsTold = {
            "lab,4,3,0;", "lab,0,0,0;", "lab,1,1001,0;", "lab,1,1,1000001;", "lab,1,1;", "lab,1,1,1,1;", "laa,1,1,0;", "lac,1,1,0;",
            "lca,1,1,0;", "oaa;", "oab,1;", "oa;", "oac;", "oabb;", "mab,1001;", "mab;", "ma,1;", "mbb,1;", "mab,1,1;",
            "gab,10001;", "gab;", "gaa,1;", "gac,1;", "tab,0;", "tab,13;", "tab;", "tbb,1;", "tca,1;",
            "ra,101;", "ra;", "rc,1;", "rab,1;", "na,101;", "nc,1;", "ea,1001;", "ec,1;", "eab,1;", "ea;", "zc;", "zab;", "za,1;",
            ";", "x;", "xa;", "S;", "a;", "Za;", " za;", "za ;", "z;"};
        for (String item : asTold) {
            other(item, true);
        }
        for (String item : notAsTold) {
            other(item, false);
        }
    }

    private static void faultsOfPlaces() {
        fault("sa,1,1;oab;sb,1,1;", 7);
        fault("sa,1,1;za", 7);
        fault("sa,1,1", 0);
        fault("s", 0);
        fault("sa,1,1;za;q", 10);
        fault("sa,1,1;;za;", 7);
        whole(AB + "gab,1;gab,1;gab,1;gab,1;");
        fault(AB + "gab,1;gab,1;gab,1;gab,1;gab,1;", 38);
        RiverModel x = Checks.built(AB);
        x.write(1, 'z');
        C.due("fault() of the rest", x.fault(), 14);
        x.write(2, 'a' << 8 | ';');
        C.due("fault() when it ends", x.fault(), RiverModel.NONE);
    }

    private static void forty() {
        StringBuilder text = new StringBuilder("sa,1,1;");
        for (int k = 1; k < 40; k++) {
            text.append("za;");
        }
        whole(text.toString());
        fault(text + "z", 124);
        fault(text + "za;", 124);
        fault(text + "za;za;", 124);
        RiverModel x = Checks.built(text.toString());
        C.due("forty items", x.count(1), 40);
        C.due("item(39, 0)", x.item(39, 0), 'z');
    }

    private static void building() {
        RiverModel x = new RiverModel();
        Checks.put(x, AB + "gab,1;zb;");
        C.due("build()", x.build(), 4);
        C.due("count(0): the text stays", x.count(0), 23);
        C.due("count(2)", x.count(2), 2);
        C.due("count(3)", x.count(3), 1);
        C.due("run(3)", x.run(3), 3);
        Checks.put(x, "sa,1,1;zz;");
        C.due("build() with a fault", x.build(), RiverModel.NO);
        C.due("nothing changes", x.count(4), 3);
        C.due("nothing changes", x.count(1), 4);
        x.clear();
        C.due("build() without a store", x.build(), RiverModel.NO);
        C.due("nothing changes", x.has(1, 0), 0);
        Checks.put(x, "sc,5,4;");
        C.due("build() of another", x.build(), 1);
        C.due("the run is at its beginning", x.count(4), 0);
        C.due("has(2, 0)", x.has(2, 0), 4);
        C.due("has(0, 0)", x.has(0, 0), RiverModel.NO);
    }

    private static void whatBuildLeaves() {
        RiverModel x = Checks.built(AB + "rb,100;gab,1;");
        x.gauge(0, 1, 1);
        x.see(0, 5, 5);
        x.knob(0, 0, 0, 1, 1, 2);
        x.startB(0, 77);
        x.keep();
        x.gate(0, 9);
        x.weather(0, 0, 40, 3);
        x.weigh(2, 7);
        x.rain(2, 3, 11);
        x.ends(13);
        x.warn(0, 1, 5L, 0);
        C.due("swap", Checks.swap(x, 2, "rb,50;"), 0);
        Checks.put(x, AB + "rb,100;gab,1;");
        C.due("build() again", x.build(), 4);
        for (int what = 4; what <= 8; what++) {
            C.due("gone: count(" + what + ")", x.count(what), 0);
        }
        C.due("gone: the gauge", x.reads(0), RiverModel.NO);
        C.due("gone: the swap", x.laySwap(), RiverModel.NO);
        C.due("gone: start B", x.startB(0, 1), 8);
        C.due("gone: the opening", x.gate(0, 9), 5);
        C.due("left: weather", x.run(1) == 1 ? x.flow(2) : -9, 40);
        C.due("left: weight", x.weigh(2, 7), 7);
        C.due("left: rain", x.rain(2, 3, 11), 11);
        C.due("left: ends", x.ends(0), 13);
        C.due("left: booked", x.booked(0) + x.booked(1), 1);
    }

    private static void row(RiverModel x, int i, int... wants) {
        for (int what = 0; what < wants.length; what++) {
            C.due("item(" + i + ", " + what + ")", x.item(i, what), wants[what]);
        }
    }

    private static void items() {
        RiverModel x = new RiverModel();
        C.due("item(0, 0) without a model", x.item(0, 0), RiverModel.NO);
        C.due("item(0, 6) without a model", x.item(0, 6), RiverModel.BAD);
        Checks.put(x, "sa,9,8;sp,7,6;lap,1,2,3;opa;map,4;gpa,5;tap,6;ra,7;np,8;ea,9;zp;");
        C.due("build()", x.build(), 11);
        int none = RiverModel.NONE;
        row(x, 0, 's', 0, none, 9, 8, none);
        row(x, 1, 's', 15, none, 7, 6, none);
        row(x, 2, 'l', 0, 15, 1, 2, 3);
        row(x, 3, 'o', 15, 0, none, none, none);
        row(x, 4, 'm', 0, 15, 4, none, none);
        row(x, 5, 'g', 15, 0, 5, none, none);
        row(x, 6, 't', 0, 15, 6, none, none);
        row(x, 7, 'r', 0, none, 7, none, none);
        row(x, 8, 'n', 15, none, 8, none, none);
        row(x, 9, 'e', 0, none, 9, none, none);
        row(x, 10, 'z', 15, none, none, none, none);
        C.due("item(11, 0)", x.item(11, 0), RiverModel.NO);
        C.due("item(39, 5)", x.item(39, 5), RiverModel.NO);
        C.due("item(40, 0)", x.item(40, 0), RiverModel.BAD);
        C.due("item(-1, 0)", x.item(-1, 0), RiverModel.BAD);
        C.due("item(0, 6)", x.item(0, 6), RiverModel.BAD);
        C.due("item(0, -1)", x.item(0, -1), RiverModel.BAD);
    }
}
