/** Edges of texts: the document's ==== 1 as far as FAULT, and promises 1 to 6. */
final class EdgesOfTexts {
    private static final int BAD = RiverModel.BAD, NO = RiverModel.NO, FULL = RiverModel.FULL, NONE = RiverModel.NONE;
    private static final String AB = "sa,0,0;sb,0,0;";
    private static final String[] TWO_NAMES = {"l%$,1,1,0;", "o%$;", "m%$,1;", "g%$,1;", "t%$,1;"};
    private static final String[] ONE_NAME = {"r%,1;", "n%,1;", "e%,1;", "z%;"};

    private final Checks c;

    EdgesOfTexts(Checks checks) {
        c = checks;
    }

    void all() {
        bytesAtMost();
        wholeTextOfAllBytes();
        restOfAFullText();
        itemsAtMost();
        endsOfItems();
        namesFromAToP();
        numbersOfStores();
        numbersOfLeaks();
        numbersOfOthers();
        itemsWithoutNumbers();
        storesAtMost();
        gatesAtMost();
        namesToldAhead();
        namesUnlike();
        firstOfFaults();
        whatIsLeft();
        mayBeBuilt();
        newObject();
        writing();
        clearing();
        askingForFaults();
        building();
        buildingAfterALongerOne();
        askingForItems();
    }

    private void told(String text, int items) {
        RiverModel x = Checks.written(text);
        c.due("fault() of " + text, x.fault(), NONE);
        c.due("build() of " + text, x.build(), items);
        c.due("count(1) of " + text, x.count(1), items);
    }

    private void fault(String text, int at) {
        RiverModel x = Checks.written(text);
        c.due("fault() of " + text, x.fault(), at);
        c.due("build() of " + text, x.build(), NO);
        c.due("count(1) of " + text, x.count(1), 0);
    }

    private static String sixteen() {
        StringBuilder text = new StringBuilder();
        for (char name = 'a'; name <= 'p'; name++) {
            text.append('s').append(name).append(",0,0;");
        }
        return text.toString();
    }

    private static RiverModel filled(int bytes) {
        RiverModel x = new RiverModel();
        Checks.append(x, ";".repeat(bytes));
        return x;
    }

    private void bytesAtMost() {
        c.of("What it is", "A TEXT are bytes (400 at most)");
        for (int n = 1; n <= 8; n++) {
            RiverModel x = filled(400 - n);
            c.due("write(" + n + ") up to 400", x.write(n, 0), 400);
            c.due("write(1) at 400", x.write(1, 0), FULL);
            RiverModel y = filled(401 - n);
            c.due("write(" + n + ") up to 401", y.write(n, 0), FULL);
            c.due("count(0) is as before", y.count(0), 401 - n);
        }
        RiverModel x = filled(400);
        c.due("write(8) at 400", x.write(8, 0), FULL);
        c.due("clear() of 400", x.clear(), 400);
        c.due("write(8) then", x.write(8, 0), 8);
    }

    private void wholeTextOfAllBytes() {
        c.of("What it is", "A TEXT are bytes (400 at most)");
        String text = sixteen().replace("0,0", "1000000,1000000") + "lab,1000,1000,1000000;".repeat(4) + "oab;zp;";
        told(text, 22);
        RiverModel x = Checks.written(text + ";");
        c.due("count(0)", x.count(0), 400);
        c.due("fault() in byte 399", x.fault(), 399);
        told(text.replace("oab;zp;", "oab;oop;"), 22);
    }

    /** The TEXT's last byte is the last that there can be, whatever it stands for. */
    private void restOfAFullText() {
        c.of("What it is", "A TEXT are bytes (400 at most)");
        String[] rests = {"lab,1,2,3", "sc,1,2", "oab", "tab,12", "za"};
        for (String rest : rests) {
            for (int n = 1; n <= rest.length(); n++) {
                String text = AB + "x".repeat(400 - 14 - n) + rest.substring(0, n);
                c.due("fault() of 400 bytes", Checks.written(text).fault(), 14);
                fault(toldOf(400 - n) + rest.substring(0, n), 400 - n);
            }
        }
        RiverModel x = Checks.written(toldOf(400));
        c.due("count(0)", x.count(0), 400);
        c.due("fault()", x.fault(), NONE);
    }

    /** A TEXT as told of so many bytes, 24 at least: LEAKS with as many figures as it takes. */
    private static String toldOf(int bytes) {
        StringBuilder text = new StringBuilder(AB);
        while (text.length() < bytes) {
            int left = bytes - text.length();
            int figures = (left <= 28 ? left : Math.min(28, left - 10)) - 7;
            int p = Math.min(7, figures - 2);
            int q = Math.min(7, figures - p - 1);
            text.append("lab,").append("0".repeat(p - 1)).append("1,").append("0".repeat(q - 1)).append("1,");
            text.append("0".repeat(figures - p - q - 1)).append("1;");
        }
        return text.toString();
    }

    private void itemsAtMost() {
        c.of("What it is", "ITEMS one behind the other (40 at most)");
        String forty = "sa,0,0;" + "za;".repeat(39);
        told("sa,0,0;" + "za;".repeat(38), 39);
        told(forty, 40);
        c.of("Terms", "the forty-first");
        fault(forty + "za;", 124);
        fault(forty + "sb,0,0;", 124);
        fault(forty + "za;".repeat(50), 124);
        fault(forty + "?", 124);
        fault(forty + ";", 124);
        fault("sa,0,0;" + "za;".repeat(38) + "zb;za;", 121);
    }

    private void endsOfItems() {
        c.of("What it is", "each ending with ;");
        String[] items = {"sc,0,0", "lab,1,1,0", "oab", "mab,1", "gab,1", "tab,1", "ra,1", "na,1", "ea,1", "za"};
        for (String item : items) {
            told(AB + item + ";", 3);
            fault(AB + item, 14);
            fault(AB + item + ":", 14);
            fault(AB + item + ":za;", 14);
            fault(AB + item + " ;", 14);
            fault(AB + item + ",;", 14);
            fault(AB + item + "\u0000", 14);
            fault(AB + item + (char) (';' + 128), 14);
            fault(AB + item + ";;", 15 + item.length());
        }
    }

    private void namesFromAToP() {
        c.of("Terms", "N, M are NAMES (a to p)");
        told("sa,0,0;", 1);
        told("sp,0,0;", 1);
        String others = "`qzAP0,;\u0000" + (char) ('a' + 128);
        for (char other : others.toCharArray()) {
            fault("s" + other + ",0,0;", 0);
            for (String item : ONE_NAME) {
                fault(sixteen() + item.replace('%', other), 112);
            }
            for (String item : TWO_NAMES) {
                fault(sixteen() + item.replace('%', other).replace('$', 'b'), 112);
                fault(sixteen() + item.replace('%', 'b').replace('$', other), 112);
            }
        }
        for (String item : ONE_NAME) {
            namesOf(item.replace('%', 'a'), 0, NONE);
            namesOf(item.replace('%', 'p'), 15, NONE);
        }
        for (String item : TWO_NAMES) {
            namesOf(item.replace('%', 'a').replace('$', 'p'), 0, 15);
            namesOf(item.replace('%', 'p').replace('$', 'a'), 15, 0);
        }
    }

    private void namesOf(String item, int n, int m) {
        told(sixteen() + item, 17);
        RiverModel x = Checks.built(sixteen() + item);
        c.due("item(16, 0) of " + item, x.item(16, 0), item.charAt(0));
        c.due("item(16, 1) of " + item, x.item(16, 1), n);
        c.due("item(16, 2) of " + item, x.item(16, 2), m);
    }

    /** The ITEM stands behind STORES a and b; its number j is between the two pieces. */
    private void number(String before, String after, int j, int least, int most) {
        numberTold(before, after, j, "" + least, least);
        numberTold(before, after, j, "" + most, most);
        fault(AB + before + (most + 1) + after, 14);
        if (least > 0) {
            fault(AB + before + (least - 1) + after, 14);
        }
        c.of("Terms", "one figure or more, seven at most, without a sign");
        numberTold(before, after, j, String.format("%07d", least), least);
        numberTold(before, after, j, String.format("%07d", most), most);
        String[] others = {"", "+" + most, "-" + least, " " + most, most + " ", "/" + most, most + "/", most + ":", ":", "x",
            String.format("%08d", least), String.format("%08d", most), "9999999", "4294967297", most + "" + (char) ('0' + 128)};
        for (String other : others) {
            fault(AB + before + other + after, 14);
        }
        c.of("Terms", "parted by ,");
        fault(AB + before.substring(0, before.length() - 1) + most + after, 14);
        fault(AB + before.substring(0, before.length() - 1) + "." + most + after, 14);
        fault(AB + before + "," + most + after, 14);
        fault(AB + before + most + ",0" + after, 14);
    }

    private void numberTold(String before, String after, int j, String figures, int v) {
        told(AB + before + figures + after, 3);
        RiverModel x = Checks.built(AB + before + figures + after);
        c.due("item(2, " + (3 + j) + ") of " + before + figures + after, x.item(2, 3 + j), v);
    }

    private void numbersOfStores() {
        c.of("Terms", "a STORE N with CAPACITY c, START x (both to 1000000)");
        number("sc,", ",0;", 0, 0, 1000000);
        c.of("Terms", "a STORE N with CAPACITY c, START x (both to 1000000)");
        number("sc,0,", ";", 1, 0, 1000000);
        RiverModel x = Checks.built("sa,1000000,1000000;");
        c.due("has(0, 0) of the greatest START", x.has(0, 0), 1000000);
    }

    private void numbersOfLeaks() {
        String words = "(p to q; q 1 to 1000; h to 1000000)";
        c.of("Terms", words);
        number("lab,", ",1,0;", 0, 0, 1);
        c.of("Terms", words);
        number("lab,", ",7,0;", 0, 0, 7);
        c.of("Terms", words);
        number("lab,", ",1000,0;", 0, 0, 1000);
        c.of("Terms", words);
        number("lab,0,", ",0;", 1, 1, 1000);
        c.of("Terms", words);
        number("lab,5,", ",0;", 1, 5, 1000);
        c.of("Terms", words);
        number("lab,1,1,", ";", 2, 0, 1000000);
    }

    private void numbersOfOthers() {
        c.of("Terms", "all of N at most (p to 1000)");
        number("mab,", ";", 0, 0, 1000);
        c.of("Terms", "all of N at most (p to 10000)");
        number("gab,", ";", 0, 0, 10000);
        c.of("Terms", "all of N is under way to M, h HOURS (1 to 12)");
        number("tab,", ";", 0, 1, 12);
        c.of("Terms", "if TEMP is above 0 (s to 100)");
        number("ra,", ";", 0, 0, 100);
        c.of("Terms", "likewise, if TEMP is 0 or below");
        number("na,", ";", 0, 0, 100);
        c.of("Terms", "goes to THE AIR (p to 1000)");
        number("ea,", ";", 0, 0, 1000);
    }

    private void itemsWithoutNumbers() {
        c.of("Terms", "an OVERFLOW: what N has above its CAPACITY");
        told(AB + "oab;", 3);
        fault(AB + "oab,0;", 14);
        fault(AB + "oab0;", 14);
        fault(AB + "oa;", 14);
        fault(AB + "oabb;", 14);
        c.of("Terms", "all of N goes to THE SEA");
        told(AB + "za;", 3);
        fault(AB + "za,0;", 14);
        fault(AB + "za0;", 14);
        fault(AB + "z;", 14);
        fault(AB + "zab;", 14);
    }

    private void storesAtMost() {
        c.of("Terms", "16 at most, none twice");
        told(sixteen(), 16);
        c.due("count(2) of sixteen", Checks.built(sixteen()).count(2), 16);
        fault("sa,0,0;sa,0,0;", 7);
        fault("sa,0,0;za;sa,1,1;", 10);
        for (char name = 'a'; name <= 'q'; name++) {
            fault(sixteen() + "s" + name + ",0,0;", 112);
        }
    }

    private void gatesAtMost() {
        c.of("Terms", "GATES have numbers 0, 1, .. in the TEXT's order, 4 at most");
        String four = "sa,9999,1000;sb,9999,1000;gab,1;oab;gba,4;gab,2;gab,3;";
        told(four, 7);
        told(four + "zb;", 8);
        fault(four + "gab,1;", four.length());
        fault(four + "gba,1;zb;", four.length());
        c.due("count(3)", Checks.built(four).count(3), 4);
        int[] items = {2, 4, 5, 6};
        int[] flows = {1, 4, 2, 3};
        for (int gate = 0; gate < 4; gate++) {
            RiverModel x = Checks.built(four);
            for (int k = 0; k < 4; k++) {
                x.gate(k, k == gate ? 1 : 0);
            }
            x.run(1);
            for (int k = 0; k < 4; k++) {
                c.due("gate " + gate + " open, flow(" + items[k] + ")", x.flow(items[k]), k == gate ? flows[k] : 0);
            }
        }
    }

    private void namesToldAhead() {
        c.of("Terms", "NAMES are those of STORES told ahead in the TEXT");
        for (String item : ONE_NAME) {
            fault("sa,0,0;" + item.replace('%', 'b') + "sb,0,0;", 7);
            fault(item.replace('%', 'a') + "sa,0,0;", 0);
            told("sa,0,0;" + item.replace('%', 'a') + "sb,0,0;", 3);
        }
        for (String item : TWO_NAMES) {
            fault("sa,0,0;" + item.replace('%', 'a').replace('$', 'b') + "sb,0,0;", 7);
            fault("sa,0,0;" + item.replace('%', 'b').replace('$', 'a') + "sb,0,0;", 7);
            fault(AB + item.replace('%', 'a').replace('$', 'c'), 14);
            fault(AB + item.replace('%', 'c').replace('$', 'a'), 14);
            told(AB + item.replace('%', 'b').replace('$', 'a') + "sc,0,0;", 4);
        }
    }

    private void namesUnlike() {
        c.of("Terms", "N and M are unlike");
        for (String item : TWO_NAMES) {
            fault(sixteen() + item.replace('%', 'a').replace('$', 'a'), 112);
            fault(sixteen() + item.replace('%', 'p').replace('$', 'p'), 112);
            told(sixteen() + item.replace('%', 'o').replace('$', 'p'), 17);
        }
    }

    private void firstOfFaults() {
        c.of("Terms", "FAULT is the place of the first byte of the first ITEM that is not as told");
        fault("zb;za;", 0);
        fault("sa,0,0;zb;zc;", 7);
        fault("sa,0,0;za;zc;zb", 10);
        fault("sa,0,0;za;za;zb", 13);
        fault("sa,0,1000001;sa,0,0;", 0);
        String kinds = "abcdfhijkpquvwxySLOMGTRNEZ0,;\u0000" + (char) ('z' + 128);
        for (char kind : kinds.toCharArray()) {
            fault(AB + kind + "a;", 14);
            fault(AB + kind + "ab,1;", 14);
        }
        // a store's fault leaves it untold: what names it is not the first
        fault("sa,1000001,0;za;", 0);
    }

    private void whatIsLeft() {
        c.of("Terms", "what is left without ; is one, too");
        String left = "lab,1,2,3";
        for (int n = 1; n <= left.length(); n++) {
            fault(AB + left.substring(0, n), 14);
        }
        told(AB + left + ";", 3);
        told(AB, 2);
        fault("s", 0);
        // bytes that were ahead of a clear() don't end what is left
        RiverModel x = Checks.written(AB + left + ";");
        for (int n = left.length(); n >= 1; n--) {
            Checks.put(x, AB + left.substring(0, n));
            c.due("fault() of " + left.substring(0, n) + " after a longer text", x.fault(), 14);
            c.due("build() of " + left.substring(0, n) + " after a longer text", x.build(), NO);
        }
        Checks.put(x, "za;");
        Checks.put(x, "za");
        c.due("swap() of a rest after a longer text", x.swap(0), NO);
    }

    private void mayBeBuilt() {
        c.of("Terms", "A TEXT without FAULT and with a STORE may be BUILT");
        RiverModel x = new RiverModel();
        c.due("fault() of an empty text", x.fault(), NONE);
        c.due("build() of an empty text", x.build(), NO);
        told("sa,0,0;", 1);
        fault("za;", 0);
    }

    private void newObject() {
        c.of("Promise 1", "An empty TEXT, no MODEL.");
        RiverModel x = new RiverModel();
        for (int what = 0; what <= 8; what++) {
            c.due("new: count(" + what + ")", x.count(what), 0);
        }
        c.due("new: clear()", x.clear(), 0);
        c.due("new: fault()", x.fault(), NONE);
        c.due("new: item(0, 0)", x.item(0, 0), NO);
        c.due("new: has(0, 0)", x.has(0, 0), NO);
        for (int what = 0; what <= 3; what++) {
            c.due("new: booked(" + what + ")", x.booked(what), 0);
        }
    }

    private void writing() {
        c.of("Promise 2", "n bytes (1 to 8) of v, the highest first, come behind THE TEXT: how long it is. BAD; FULL.");
        RiverModel x = new RiverModel();
        int[] bad = {0, 9, -1, 10, 16, Integer.MIN_VALUE, Integer.MAX_VALUE};
        for (int n : bad) {
            c.due("write(" + n + ")", x.write(n, 0x73612c302c303bL), BAD);
            c.due("write(" + n + ") of a full text", filled(400).write(n, 0), BAD);
        }
        c.due("count(0)", x.count(0), 0);
        for (int n = 1; n <= 8; n++) {
            // the bytes above the n-th are none of them
            String text = "sa,1,23;".substring(8 - n);
            RiverModel y = Checks.written("sa,1,23;".substring(0, 8 - n));
            long v = -1L;
            for (int k = 0; k < n; k++) {
                v = v << 8 | text.charAt(k);
            }
            c.due("write(" + n + ", " + v + ")", y.write(n, v), 8);
            c.due("build() by write(" + n + ")", y.build(), 1);
            c.due("item(0, 4) by write(" + n + ")", y.item(0, 4), 23);
        }
        c.due("write(8, least)", x.write(8, Long.MIN_VALUE), 8);
        c.due("write(8, greatest)", x.write(8, Long.MAX_VALUE), 16);
        c.due("write(1, -1)", x.write(1, -1L), 17);
        c.due("fault()", x.fault(), 0);
    }

    private void clearing() {
        c.of("Promise 3", "THE TEXT is empty: how long it was.");
        RiverModel x = new RiverModel();
        c.due("clear() of nothing", x.clear(), 0);
        x.write(1, 's');
        c.due("clear() of one byte", x.clear(), 1);
        c.due("clear() again", x.clear(), 0);
        Checks.append(x, "sb,0,0;");
        c.due("what was cleared is no more there", x.fault(), NONE);
        c.due("clear() of 400", filled(400).clear(), 400);
    }

    private void askingForFaults() {
        c.of("Promise 4", "FAULT. NONE: there is none.");
        RiverModel x = Checks.built("sa,0,7;za;");
        x.run(1);
        Checks.put(x, "sb,0,0;zz;");
        c.due("fault()", x.fault(), 7);
        c.due("fault() again", x.fault(), 7);
        c.due("the model stays", x.item(1, 0), 'z');
        c.due("the run stays", x.flow(1), 7);
        x.clear();
        c.due("fault() of nothing", x.fault(), NONE);
        c.due("fault() at the last byte", Checks.written("sa,0,0;" + "za;".repeat(5) + "s").fault(), 22);
    }

    private void building() {
        c.of("Promise 5", "GAUGES, KNOBS, what was SWAPPED, START B, KEPT ones go (what is SEEN, too)");
        RiverModel x = Checks.built("sa,0,7;sb,0,0;gab,1;za;");
        for (int k = 0; k < 4; k++) {
            x.gauge(k, 1, 0);
            x.see(k, 0, 7);
            x.see(k, 95, 7);
        }
        x.knob(0, 0, 0, 0, 1, 16);
        x.knob(1, 0, 1, 0, 1, 16);
        x.keep();
        x.run(96);
        x.keep();
        x.keep();
        x.startB(1, 1000000);
        x.gate(0, 10);
        c.due("swap(3)", Checks.swap(x, 3, "zb;"), 0);
        Checks.put(x, "sb,0,0;z");
        c.due("build() of a fault", x.build(), NO);
        int[] counts = {8, 4, 2, 1, 96, 2, 4, 8, 3};
        for (int what = 0; what <= 8; what++) {
            c.due("refused: count(" + what + ")", x.count(what), counts[what]);
        }
        Checks.put(x, "sb,0,5;");
        c.due("build()", x.build(), 1);
        int[] after = {7, 1, 1, 0, 0, 0, 0, 0, 0};
        for (int what = 0; what <= 8; what++) {
            c.due("built: count(" + what + ")", x.count(what), after[what]);
        }
        c.due("back()", x.back(), NO);
        c.due("laySwap()", x.laySwap(), NO);
        c.due("startB(1, 0)", x.startB(1, 0), 5);
        x.gauge(0, 1, 1);
        c.due("see(0, 95, 0)", x.see(0, 95, 0), -1);
        c.due("fit(0, 0)", x.fit(0, 0), NONE);
        c.of("Promise 5", "NO: a FAULT, or no STORE.");
        x.clear();
        c.due("build() of nothing", x.build(), NO);
        c.due("the model stays", x.has(1, 0), 5);
    }

    private void buildingAfterALongerOne() {
        c.of("Promise 5", "BUILT: how many ITEMS; THE RUN is at its beginning");
        RiverModel x = Checks.built("sa,0,9;za;sb,0,5;" + "gba,1;".repeat(4) + "ra,100;ea,10;" + "za;".repeat(31));
        x.weather(0, 0, 100, 10);
        x.run(3);
        c.due("book(2) of the longer one", x.book(2) > 0 ? 1 : 0, 1);
        // twice, as what was built ahead of the last one may be left somewhere, too
        for (int k = 0; k < 3; k++) {
            Checks.put(x, "sa,0,9;");
            c.due("build()", x.build(), 1);
            c.due("item(1, 0)", x.item(1, 0), NO);
            c.due("count(2)", x.count(2), 1);
            c.due("count(3)", x.count(3), 0);
            c.due("gate(0, 0)", x.gate(0, 0), NO);
            c.due("has(1, 0)", x.has(1, 0), NO);
            for (int what = 0; what <= 5; what++) {
                c.due("book(" + what + ")", x.book(what), what == 3 || what == 5 ? 9 : 0);
            }
            x.run(2);
            c.due("has(0, 0)", x.has(0, 0), 9);
            c.due("flow(1)", x.flow(1), NO);
        }
        Checks.put(x, "sb,0,0;sa,0,9;gab,1;");
        c.due("build()", x.build(), 3);
        c.due("gate(1, 0)", x.gate(1, 0), NO);
        x.run(1);
        c.due("flow(2)", x.flow(2), 5);
    }

    private void askingForItems() {
        c.of("Promise 6", "its kind's byte (what = 0), N, M as 0 to 15 (1, 2; NONE), its numbers (3 to 5; NONE). BAD; NO: no MODEL.");
        RiverModel x = Checks.built("sa,0,0;" + "sp,0,0;" + "za;".repeat(37) + "lap,1000,1000,1000000;");
        int[] last = {'l', 0, 15, 1000, 1000, 1000000};
        for (int what = 0; what <= 5; what++) {
            c.due("item(39, " + what + ")", x.item(39, what), last[what]);
        }
        int[] bad = {-1, 40, Integer.MIN_VALUE, Integer.MAX_VALUE};
        for (int i : bad) {
            c.due("item(" + i + ", 0)", x.item(i, 0), BAD);
        }
        int[] whats = {-1, 6, Integer.MIN_VALUE, Integer.MAX_VALUE};
        for (int what : whats) {
            c.due("item(0, " + what + ")", x.item(0, what), BAD);
        }
        RiverModel y = Checks.built("sa,0,0;");
        c.due("item(0, 0) of one", y.item(0, 0), 's');
        c.due("item(1, 0) of one", y.item(1, 0), NO);
        c.due("item(39, 0) of one", y.item(39, 0), NO);
        c.due("item(40, 0) of one", y.item(40, 0), BAD);
        c.due("item(1, 6) of one", y.item(1, 6), BAD);
        RiverModel z = Checks.written("sa,0,0;");
        c.due("item(0, 0) of none", z.item(0, 0), NO);
        c.due("item(39, 5) of none", z.item(39, 5), NO);
        c.due("item(40, 0) of none", z.item(40, 0), BAD);
        c.due("item(0, 6) of none", z.item(0, 6), BAD);
    }
}
