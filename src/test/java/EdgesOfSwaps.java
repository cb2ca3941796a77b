/** Edges of swaps, blames and what is kept: the document's ==== 4, and promises 29 to 36. */
final class EdgesOfSwaps {
    private static final int BAD = RiverModel.BAD, NO = RiverModel.NO, FULL = RiverModel.FULL, NONE = RiverModel.NONE;
    private static final int LEAST = Integer.MIN_VALUE, MOST = Integer.MAX_VALUE;
    private static final long BLAME_BAD = -1000000000000000000L, BLAME_NO = -1000000000000000001L;
    private static final int[] NOT_0_TO_3 = {-1, 4, LEAST, MOST};

    private final Checks c;

    EdgesOfSwaps(Checks checks) {
        c = checks;
    }

    void all() {
        oneItem();
        numbersOfTheOne();
        namesAheadOfTheOther();
        kindsAlone();
        startsAtFirst();
        partsOfBlames();
        trialsFromHourZero();
        keptAtMost();
        keptGo();
        swapping();
        swappedRefused();
        swappedHours();
        swappedSums();
        laying();
        settingStartsB();
        blameRefused();
        blamesOfAllHours();
        keeping();
        bringingBack();
        allOfTheRunComesBack();
        countsAtMost();
        countsRefused();
    }

    private void swap(RiverModel x, int i, String text, int want) {
        c.due("swap(" + i + ") of " + text, Checks.swap(x, i, text), want);
    }

    private void oneItem() {
        c.of("Terms", "THE MODEL with one ITEM in place of another: the TEXT then is that one ITEM");
        RiverModel x = Checks.built("sa,5,5;sb,5,5;oab;");
        swap(x, 2, "", NO);
        swap(x, 2, "oba", NO);
        swap(x, 2, "oba;", 0);
        swap(x, 2, "oba;o", NO);
        swap(x, 2, "oba;;", NO);
        swap(x, 2, ";oba;", NO);
        swap(x, 2, "oba;oba;", NO);
        swap(x, 2, "sa,5,5;oba;", NO);
        swap(x, 2, "x", NO);
        swap(x, 2, ";", NO);
        RiverModel y = Checks.built("sa,5,5;");
        c.due("the TEXT that was built is one ITEM", y.swap(0), 0);
        c.due("the TEXT that was built is three", Checks.built("sa,5,5;sb,5,5;oab;").swap(2), NO);
    }

    private void numbersOfTheOne() {
        c.of("Promise 29", "NO: THE TEXT is not just one ITEM as told, or of a kind that may not be, too.");
        RiverModel x = Checks.built("sa,5,5;sb,5,5;oab;gab,1;");
        String[] told = {"lab,0,1,0;", "lab,1000,1000,1000000;", "mab,0;", "mab,1000;", "tab,1;", "tab,12;", "ra,0;", "ra,100;", "na,0;",
            "na,100;", "ea,0;", "ea,1000;", "za;", "oba;"};
        String[] not = {"lab,0,0,0;", "lab,2,1,0;", "lab,1,1001,0;", "lab,1,1,1000001;", "mab,1001;", "tab,0;", "tab,13;", "ra,101;",
            "na,101;", "ea,1001;", "za,0;", "oaa;", "ozz;", "zq;", "lab,1,1,00000001;", "tab,;", "ra,-1;"};
        for (String item : told) {
            swap(x, 2, item, 0);
        }
        for (String item : not) {
            swap(x, 2, item, NO);
        }
        swap(x, 3, "gab,0;", 0);
        swap(x, 3, "gba,10000;", 0);
        swap(x, 3, "gab,10001;", NO);
        swap(x, 3, "gaa,1;", NO);
        swap(x, 0, "sa,0,0;", 0);
        swap(x, 0, "sa,1000000,1000000;", 0);
        swap(x, 0, "sa,1000001,0;", NO);
        swap(x, 0, "sa,0,1000001;", NO);
    }

    private void namesAheadOfTheOther() {
        c.of("Terms", "its NAMES are those of STORES told ahead of the other one");
        RiverModel x = Checks.built("sa,5,5;za;sb,5,5;oab;gab,1;sp,5,5;zp;gap,1;");
        swap(x, 1, "za;", 0);
        swap(x, 1, "zb;", NO);
        swap(x, 1, "oab;", NO);
        swap(x, 3, "zb;", 0);
        swap(x, 3, "oba;", 0);
        swap(x, 3, "zp;", NO);
        swap(x, 3, "opa;", NO);
        swap(x, 3, "oap;", NO);
        swap(x, 4, "gba,1;", 0);
        swap(x, 4, "gap,1;", NO);
        swap(x, 6, "zp;", 0);
        swap(x, 6, "opb;", 0);
        swap(x, 6, "zo;", NO);
        swap(x, 7, "gpa,1;", 0);
        swap(x, 7, "gpc,1;", NO);
    }

    private void kindsAlone() {
        c.of("Terms", "one of kind s, of a GATE is for one of that kind alone, and no other is for such (of kind s: with the same NAME)");
        String[] items = {"sa,1,1;", "sb,1,1;", "lab,1,1,0;", "oab;", "mab,1;", "gab,1;", "tab,1;", "ra,1;", "na,1;", "ea,1;", "za;"};
        RiverModel x = Checks.built(String.join("", items));
        for (int i = 0; i < items.length; i++) {
            for (int with = 0; with < items.length; with++) {
                boolean isAlone = "sg".indexOf(items[i].charAt(0)) >= 0 || "sg".indexOf(items[with].charAt(0)) >= 0;
                swap(x, i, items[with], !isAlone || i == with ? 0 : NO);
            }
        }
        swap(x, 0, "sc,1,1;", NO);
        swap(x, 10, "sc,1,1;", NO);
    }

    private void startsAtFirst() {
        c.of("Terms", "R2 by START B, too (a number of each STORE; its START at first)");
        RiverModel x = Checks.built("sa,0,1000000;sb,0,0;sp,0,7;");
        c.due("startB(0, 0)", x.startB(0, 0), 1000000);
        c.due("startB(1, 0)", x.startB(1, 0), 0);
        c.due("startB(15, 0)", x.startB(15, 0), 7);
        RiverModel y = Checks.built("sa,0,1000000;sb,0,0;sp,0,7;");
        y.gauge(0, 1, 0);
        c.due("no blame at first", y.blame(0, 0, 1), 0);
        c.due("no blame at first", y.blame(0, 95, 3), 0);
        y.startB(0, 0);
        c.due("blame of START", y.blame(0, 95, 1), -1000000);
    }

    private void parts(RiverModel x, int h, long weather, long start, long item) {
        c.due("blame(0, " + h + ", 0)", x.blame(0, h, 0), weather);
        c.due("blame(0, " + h + ", 1)", x.blame(0, h, 1), start);
        c.due("blame(0, " + h + ", 2)", x.blame(0, h, 2), item);
        c.due("blame(0, " + h + ", 3)", x.blame(0, h, 3), weather + start + item);
    }

    private void partsOfBlames() {
        c.of("Terms", "R3 by THE MODEL SWAPPED, too (R2, if none is): parts R1 less R0, R2 less R1, R3 less R2");
        RiverModel x = Checks.built("sa,0,10;ra,100;za;");
        x.gauge(0, 0, 2);
        x.weather(0, 0, 100, 10);
        x.weather(1, 0, 40, 10);
        parts(x, 0, -60, 0, 0);
        x.startB(0, 1);
        parts(x, 0, -60, -9, 0);
        swap(x, 1, "ra,50;", 0);
        parts(x, 0, -60, -9, -20);
        parts(x, 1, 0, 0, 0);
        swap(x, 1, "ra,101;", NO);
        parts(x, 0, -60, -9, -20);
        c.due("laySwap()", x.laySwap(), 0);
        parts(x, 0, -30, 0, 0);
    }

    private void trialsFromHourZero() {
        c.of("Terms", "All trials from HOUR 0, OPENINGS 5.");
        RiverModel x = Checks.built("sa,0,100;sb,0,0;gab,1;");
        x.gauge(0, 0, 2);
        swap(x, 2, "gab,2;", 0);
        x.gate(0, 10);
        x.run(96);
        parts(x, 0, 0, 0, 5);
        c.due("swapped(0, 1, 1)", x.swapped(0, 1, 1), 5);
        c.due("fit of OPENINGS 5", x.fits(), 1);
        c.due("count(4)", x.count(4), 96);
        c.due("OPENING", x.gate(0, 0), 10);
    }

    private void keptAtMost() {
        c.of("Terms", "KEPT is THE RUN; 3 at most");
        RiverModel x = Checks.built("sa,0,64;sb,0,0;lab,1,2,0;");
        for (int k = 1; k <= 3; k++) {
            c.due("keep()", x.keep(), k);
            x.run(1);
        }
        c.due("the fourth", x.keep(), FULL);
        c.due("the fourth again", x.keep(), FULL);
        c.due("count(8)", x.count(8), 3);
        c.due("THE RUN is as it was", x.has(0, 0), 8);
        long[] had = {16, 32, 64};
        for (int k = 0; k < 3; k++) {
            c.due("back()", x.back(), 2 - k);
            c.due("has(0, 0)", x.has(0, 0), had[k]);
        }
        c.due("back() of none", x.back(), NO);
        c.due("has(0, 0)", x.has(0, 0), 64);
    }

    private static RiverModel threeKept() {
        RiverModel x = Checks.built("sa,0,64;sb,0,0;lab,1,2,0;");
        x.keep();
        x.keep();
        x.keep();
        return x;
    }

    private void keptGo() {
        c.of("Terms", "all go when THE MODEL is another one");
        RiverModel x = threeKept();
        c.due("build()", x.build(), 3);
        c.due("count(8)", x.count(8), 0);
        x = threeKept();
        c.due("take(0)", x.take(0), 0);
        c.due("count(8)", x.count(8), 0);
        c.due("back()", x.back(), NO);
        x = threeKept();
        swap(x, 2, "oab;", 0);
        c.due("swap() makes no other MODEL", x.count(8), 3);
        c.due("laySwap()", x.laySwap(), 0);
        c.due("count(8)", x.count(8), 0);
        c.due("keep() then", x.keep(), 1);
        x = threeKept();
        x.clear();
        c.due("build() refused", x.build(), NO);
        c.due("take(1) refused", x.take(1), NONE);
        c.due("laySwap() refused", x.laySwap(), NO);
        c.due("anew()", x.anew(), 0);
        c.due("count(8)", x.count(8), 3);
    }

    private void swapping() {
        c.of("Promise 29", "The one ITEM of THE TEXT is SWAPPED for ITEM i of THE MODEL: 0. BAD; NO");
        int[] bad = {-1, 40, LEAST, MOST};
        RiverModel x = Checks.built("sa,0,0;" + "za;".repeat(39));
        for (int i : bad) {
            swap(x, i, "ea,1;", BAD);
            swap(x, i, "", BAD);
            swap(new RiverModel(), i, "ea,1;", BAD);
            swap(new RiverModel(), i, "", BAD);
        }
        swap(x, 39, "ea,1;", 0);
        swap(x, 0, "sa,1,1;", 0);
        swap(new RiverModel(), 0, "sa,1,1;", NO);
        swap(new RiverModel(), 39, "sa,1,1;", NO);
        RiverModel y = Checks.built("sa,0,0;za;");
        swap(y, 1, "ea,1;", 0);
        swap(y, 2, "ea,1;", NO);
        swap(y, 39, "ea,1;", NO);
        c.due("THE MODEL is as it was", y.item(1, 0), 'z');
        c.due("THE TEXT stays", y.count(0), 5);
        c.due("laySwap() of what was SWAPPED", y.laySwap(), 0);
        c.due("THE MODEL has it", y.item(1, 0), 'e');
    }

    /** Its GAUGE 0 reads all RAIN of an HOUR, half of it by what is SWAPPED. */
    private static RiverModel halfRain() {
        RiverModel x = Checks.built("sa,0,0;ra,100;za;");
        x.gauge(0, 0, 2);
        Checks.swap(x, 1, "ra,50;");
        return x;
    }

    private void swappedRefused() {
        c.of("Promise 30", "BAD; NO: nothing is SWAPPED, the GAUGE is not set.");
        RiverModel x = halfRain();
        RiverModel none = Checks.built("sa,0,0;ra,100;za;");
        none.gauge(0, 0, 2);
        int[] ns = {0, -1, 97, LEAST, MOST};
        int[] whats = {-1, 2, LEAST, MOST};
        RiverModel[] all = {x, none, new RiverModel()};
        for (RiverModel each : all) {
            for (int k : NOT_0_TO_3) {
                c.due("swapped(" + k + ", 1, 0)", each.swapped(k, 1, 0), BAD);
            }
            for (int n : ns) {
                c.due("swapped(0, " + n + ", 0)", each.swapped(0, n, 0), BAD);
                c.due("swapped(1, " + n + ", 0)", each.swapped(1, n, 0), BAD);
            }
            for (int what : whats) {
                c.due("swapped(0, 1, " + what + ")", each.swapped(0, 1, what), BAD);
                c.due("swapped(3, 1, " + what + ")", each.swapped(3, 1, what), BAD);
            }
        }
        for (int what = 0; what <= 1; what++) {
            c.due("the GAUGE is not set", x.swapped(1, 1, what), NO);
            c.due("the GAUGE is not set", x.swapped(3, 96, what), NO);
            c.due("nothing is SWAPPED", none.swapped(0, 1, what), NO);
            c.due("nothing is SWAPPED, not set", none.swapped(3, 96, what), NO);
            c.due("no MODEL", new RiverModel().swapped(0, 1, what), NO);
        }
    }

    private void swappedHours() {
        c.of("Promise 30", "the first HOUR below n (1 to 96) in which a GAUGE reads otherwise (what = 0; NONE)");
        int[] hours = {0, 1, 50, 94, 95};
        for (int hour : hours) {
            RiverModel x = halfRain();
            x.weather(0, hour, 100, 10);
            x.weather(1, 0, 100, 10);
            if (hour > 0) {
                c.due("swapped(0, " + hour + ", 0)", x.swapped(0, hour, 0), NONE);
                c.due("swapped(0, 1, 0)", x.swapped(0, 1, 0), NONE);
            }
            c.due("swapped(0, " + (hour + 1) + ", 0)", x.swapped(0, hour + 1, 0), hour);
            c.due("swapped(0, 96, 0)", x.swapped(0, 96, 0), hour);
        }
        RiverModel x = halfRain();
        c.due("never", x.swapped(0, 96, 0), NONE);
        x.weather(0, 3, 1, 10);
        c.due("1 less is otherwise", x.swapped(0, 96, 0), 3);
        x.weather(0, 2, 100, 0);
        c.due("nothing comes in the cold", x.swapped(0, 96, 0), 3);
        swap(x, 1, "na,100;", 0);
        c.due("more is otherwise", x.swapped(0, 96, 0), 2);
    }

    private void swappedSums() {
        c.of("Promise 30", "the sum of readings less those by THE MODEL (1)");
        RiverModel x = halfRain();
        c.due("of nothing", x.swapped(0, 96, 1), 0);
        x.weather(0, 0, 100, 10);
        x.weather(0, 95, 10, 10);
        c.due("HOUR 0", x.swapped(0, 1, 1), -50);
        c.due("to HOUR 94", x.swapped(0, 95, 1), -50);
        c.due("to HOUR 95", x.swapped(0, 96, 1), -55);
        swap(x, 2, "oa", NO);
        c.due("as it was", x.swapped(0, 96, 1), -55);
        x.weather(0, 1, 200, 0);
        swap(x, 1, "na,100;", 0);
        c.due("less and more", x.swapped(0, 2, 1), 100);
        c.due("less, more and less", x.swapped(0, 96, 1), 90);
        RiverModel y = Checks.built("sa,1000000,1000000;ra,100;");
        y.gauge(0, 1, 0);
        swap(y, 0, "sa,0,0;", 0);
        c.due("a million in each HOUR", y.swapped(0, 96, 1), -96000000);
        c.due("in HOUR 0", y.swapped(0, 96, 0), 0);
    }

    private void laying() {
        c.of("Promise 31", "What is SWAPPED becomes THE MODEL (as take() does): 0. NO.");
        c.due("of no MODEL", new RiverModel().laySwap(), NO);
        c.due("nothing is SWAPPED", Checks.built("sa,0,0;").laySwap(), NO);
        RiverModel x = Checks.built("sa,0,9;sb,0,0;gab,1;zb;");
        x.gauge(3, 0, 3);
        x.see(3, 95, 1);
        x.knob(1, 0, 0, 0, 1, 16);
        x.run(96);
        x.keep();
        x.startB(0, 4);
        x.gate(0, 0);
        swap(x, 0, "sa,0,1000000;", 0);
        c.due("has(0, 0) ahead of it", x.has(0, 0), 0);
        c.due("laySwap()", x.laySwap(), 0);
        int[] counts = {13, 4, 2, 1, 0, 1, 1, 1, 0};
        for (int what = 0; what <= 8; what++) {
            c.due("count(" + what + ")", x.count(what), counts[what]);
        }
        c.due("has(0, 0)", x.has(0, 0), 1000000);
        c.due("book(5)", x.book(5), 1000000);
        c.due("START B", x.startB(0, 4), 1000000);
        c.due("OPENING", x.gate(0, 5), 5);
        c.due("SEEN", x.see(3, 95, 1), 1);
        c.due("laySwap() again", x.laySwap(), NO);
        c.due("swapped(3, 1, 0)", x.swapped(3, 1, 0), NO);
        c.due("back()", x.back(), NO);
    }

    private void settingStartsB() {
        c.of("Promise 32", "START B of a STORE (0 to 1000000): what it was. BAD; NO.");
        RiverModel x = Checks.built("sa,0,9;sp,0,8;");
        c.due("startB(0, 1000000)", x.startB(0, 1000000), 9);
        c.due("startB(0, 0)", x.startB(0, 0), 1000000);
        c.due("startB(15, 1000000)", x.startB(15, 1000000), 8);
        int[] stores = {-1, 16, LEAST, MOST};
        int[] vs = {-1, 1000001, LEAST, MOST};
        for (int k = 0; k < 4; k++) {
            c.due("startB(" + stores[k] + ", 5)", x.startB(stores[k], 5), BAD);
            c.due("startB(0, " + vs[k] + ")", x.startB(0, vs[k]), BAD);
            c.due("startB(1, " + vs[k] + "), no STORE", x.startB(1, vs[k]), BAD);
            c.due("startB(" + stores[k] + ", 5) of no MODEL", new RiverModel().startB(stores[k], 5), BAD);
            c.due("startB(0, " + vs[k] + ") of no MODEL", new RiverModel().startB(0, vs[k]), BAD);
        }
        c.due("startB(1, 5)", x.startB(1, 5), NO);
        c.due("startB(14, 5)", x.startB(14, 5), NO);
        c.due("startB(0, 5) of no MODEL", new RiverModel().startB(0, 5), NO);
        c.due("startB(0, 5)", x.startB(0, 5), 0);
        c.due("startB(15, 5)", x.startB(15, 5), 1000000);
        c.due("THE RUN stays", x.has(0, 0), 9);
    }

    private void blameRefused() {
        c.of("Promise 33", "BAD answers -1000000000000000000; NO -1000000000000000001.");
        RiverModel x = Checks.built("sa,0,9;");
        x.gauge(0, 1, 0);
        RiverModel none = new RiverModel();
        int[] hs = {-1, 96, LEAST, MOST};
        for (int k = 0; k < 4; k++) {
            c.due("blame(" + NOT_0_TO_3[k] + ", 0, 0)", x.blame(NOT_0_TO_3[k], 0, 0), BLAME_BAD);
            c.due("blame(0, " + hs[k] + ", 0)", x.blame(0, hs[k], 0), BLAME_BAD);
            c.due("blame(0, 0, " + NOT_0_TO_3[k] + ")", x.blame(0, 0, NOT_0_TO_3[k]), BLAME_BAD);
            c.due("blame(1, " + hs[k] + ", 0), not set", x.blame(1, hs[k], 0), BLAME_BAD);
            c.due("blame(1, 0, " + NOT_0_TO_3[k] + "), not set", x.blame(1, 0, NOT_0_TO_3[k]), BLAME_BAD);
            c.due("blame(" + NOT_0_TO_3[k] + ", 0, 0) of no MODEL", none.blame(NOT_0_TO_3[k], 0, 0), BLAME_BAD);
            c.due("blame(0, " + hs[k] + ", 0) of no MODEL", none.blame(0, hs[k], 0), BLAME_BAD);
            c.due("blame(0, 0, " + NOT_0_TO_3[k] + ") of no MODEL", none.blame(0, 0, NOT_0_TO_3[k]), BLAME_BAD);
        }
        for (int part = 0; part <= 3; part++) {
            c.due("blame(1, 0, " + part + "), not set", x.blame(1, 0, part), BLAME_NO);
            c.due("blame(3, 95, " + part + "), not set", x.blame(3, 95, part), BLAME_NO);
            c.due("blame(0, 0, " + part + ") of no MODEL", none.blame(0, 0, part), BLAME_NO);
            c.due("blame(0, 0, " + part + ")", x.blame(0, 0, part), 0);
            c.due("blame(0, 95, " + part + ")", x.blame(0, 95, part), 0);
        }
    }

    private void blamesOfAllHours() {
        c.of("Promise 33", "BLAME for HOUR h: part 0 to 2, 3 R3 less R0");
        RiverModel x = Checks.built("sa,0,50;ra,100;za;");
        x.gauge(0, 0, 2);
        x.startB(0, 40);
        swap(x, 1, "ra,10;", 0);
        for (int hour = 0; hour < 96; hour += 5) {
            x.weather(0, hour, 7, 10);
            x.weather(1, hour, 1000, 10);
        }
        int[] hours = {0, 1, 4, 5, 50, 94, 95};
        for (int h : hours) {
            boolean isWet = h % 5 == 0;
            parts(x, h, isWet ? 993 : 0, h == 0 ? -10 : 0, isWet ? -900 : 0);
        }
    }

    private void keeping() {
        c.of("Promise 34", "KEPT: how many. NO: no MODEL; FULL.");
        c.due("keep() of no MODEL", new RiverModel().keep(), NO);
        RiverModel x = Checks.built("sa,0,9;za;");
        c.due("keep() at HOUR 0", x.keep(), 1);
        x.run(96);
        c.due("keep() at HOUR 96", x.keep(), 2);
        c.due("the same again", x.keep(), 3);
        c.due("FULL", x.keep(), FULL);
        c.due("back()", x.back(), 2);
        c.due("room for one", x.keep(), 3);
        c.due("FULL", x.keep(), FULL);
    }

    private void bringingBack() {
        c.of("Promise 35", "THE RUN as KEPT last: how many are left. NO.");
        c.due("back() of no MODEL", new RiverModel().back(), NO);
        RiverModel x = Checks.built("sa,0,9;sb,0,0;gab,1;tba,12;");
        c.due("back() of none", x.back(), NO);
        x.keep();
        x.gate(0, 10);
        x.run(96);
        c.due("back() to HOUR 0", x.back(), 0);
        c.due("count(4)", x.count(4), 0);
        c.due("flow(2): no HOUR was", x.flow(2), NO);
        c.due("OPENING", x.gate(0, 9), 5);
        c.due("has(0, 1)", x.has(0, 1), 0);
        c.due("back() of none", x.back(), NO);
        c.due("run(96)", x.run(96), 96);
        x.keep();
        x.anew();
        c.due("back() to HOUR 96", x.back(), 0);
        c.due("run(1)", x.run(1), FULL);
        c.due("OPENING", x.gate(0, 9), 9);
        c.due("book(3) and book(4)", x.book(3) + x.book(4), 9);
    }

    private void allOfTheRunComesBack() {
        c.of("Promise 35", "THE RUN as KEPT last");
        RiverModel x = Checks.built("sa,0,50;sb,0,7;sc,0,0;ra,100;ea,10;zb;gcb,2;tac,3;");
        x.gauge(0, 0, 3);
        x.gauge(1, 1, 2);
        x.weather(0, 0, 30, 10);
        x.weather(0, 3, 8, 10);
        x.weather(0, 5, 900, 10);
        x.gate(0, 4);
        x.run(4);
        long[] books = new long[6];
        long[] flows = new long[8];
        for (int what = 0; what <= 5; what++) {
            books[what] = x.book(what);
        }
        for (int i = 0; i < 8; i++) {
            flows[i] = x.flow(i);
        }
        // 8 of RAIN, of which the air takes all, 8 through the GATE out of the 70 that came
        long[] wants = {0, 0, 0, 8, 8, 0, 8, 0};
        for (int i = 0; i < 8; i++) {
            c.due("flow(" + i + ") ahead of keep()", flows[i], wants[i]);
        }
        x.keep();
        for (int turn = 0; turn < 2; turn++) {
            x.gate(0, 9);
            x.run(11);
            c.due("back()", x.back(), 0);
            for (int what = 0; what <= 5; what++) {
                c.due("book(" + what + ")", x.book(what), books[what]);
            }
            for (int i = 0; i < 8; i++) {
                c.due("flow(" + i + ")", x.flow(i), flows[i]);
            }
            c.due("reads(0)", x.reads(0), 8);
            c.due("reads(1)", x.reads(1), 62);
            c.due("count(4)", x.count(4), 4);
            c.due("OPENING", x.gate(0, 4), 4);
            c.due("keep() again", x.keep(), 1);
        }
    }

    private void countsAtMost() {
        c.of("Promise 36", "How many: 0 bytes of THE TEXT, 1 ITEMS, 2 STORES, 3 GATES, 4 HOURS, 5 KNOBS, 6 GAUGES set, 7 SEEN, 8 KEPT.");
        StringBuilder land = new StringBuilder();
        for (char name = 'a'; name <= 'p'; name++) {
            land.append('s').append(name).append(",0,0;");
        }
        land.append("gab,1;gab,1;gab,1;gab,1;").append("za;".repeat(20));
        RiverModel x = Checks.built(land.toString());
        Checks.append(x, ";".repeat(204));
        x.run(96);
        for (int k = 0; k < 4; k++) {
            x.gauge(k, 1, 15);
            for (int hour = 0; hour < 96; hour++) {
                x.see(k, hour, 0);
            }
        }
        x.knob(0, 0, 0, 0, 1, 16);
        x.knob(1, 0, 0, 0, 1, 1);
        x.keep();
        x.keep();
        x.keep();
        int[] wants = {400, 40, 16, 4, 96, 2, 4, 384, 3};
        for (int what = 0; what <= 8; what++) {
            c.due("count(" + what + ") at most", x.count(what), wants[what]);
            c.due("count(" + what + ") at least", new RiverModel().count(what), 0);
        }
        RiverModel y = Checks.built("sa,0,0;");
        int[] least = {7, 1, 1, 0, 0, 0, 0, 0, 0};
        for (int what = 0; what <= 8; what++) {
            c.due("count(" + what + ") of the least MODEL", y.count(what), least[what]);
        }
    }

    private void countsRefused() {
        c.of("Promise 36", "8 KEPT. BAD.");
        int[] bad = {-1, 9, LEAST, MOST};
        for (int what : bad) {
            c.due("count(" + what + ")", Checks.built("sa,0,0;").count(what), BAD);
            c.due("count(" + what + ") of no MODEL", new RiverModel().count(what), BAD);
        }
    }
}
