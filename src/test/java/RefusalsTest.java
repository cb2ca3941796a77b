import java.util.ArrayList;
import java.util.Arrays;
import java.util.List;
import java.util.function.Supplier;

/** What is refused: by which answer, which comes first where several meet, and that nothing changes then. */
public final class RefusalsTest {
    private static final int BAD = RiverModel.BAD, NO = RiverModel.NO, FULL = RiverModel.FULL, NONE = RiverModel.NONE;
    private static final long BLAME_NO = -1000000000000000001L;
    private static final Checks C = new Checks("RefusalsTest");

    private interface Call {
        long on(RiverModel x);
    }

    public static void main(String[] args) {
        probesTellThingsApart();
        fineNumbersAreTaken();
        allEdgesOfANewObject();
        badEdgesOfABuiltLand();
        badAloneChangesNothing();
        noOfABuiltLand();
        noOfAnUnbuiltLand();
        noOfThingsAsTheyStand();
        fullChangesNothing();
        noneChangesNothing();
        swapsRefused();
        askingChangesNothing();
        C.end();
    }

    /** The call answers so, and an object on which it was made is as one on which it was not. */
    private static void unchanged(String name, Supplier<RiverModel> land, Call call, long want) {
        RiverModel x = land.get();
        C.due(name, call.on(x), want);
        same(name, Lands.probe(x), Lands.probe(land.get()));
    }

    private static void same(String name, List<String> got, List<String> want) {
        C.due(name + ": as many are told", got.size(), want.size());
        for (int k = 0; k < Math.min(got.size(), want.size()); k++) {
            if (!got.get(k).equals(want.get(k))) {
                C.due(name + " has changed " + want.get(k) + " to " + got.get(k), 1, 0);
            }
        }
    }

    /** Else the tests of what changes nothing would say little. */
    private static void probesTellThingsApart() {
        C.of("Terms", "nothing changes then");
        Call[] changes = {x -> x.write(1, 'x'), x -> x.clear(), x -> x.weather(0, 1, 300, 10), x -> x.weather(0, 95, 500, 10),
            x -> x.weather(1, 95, 500, 10), x -> x.anew(), x -> x.run(1), x -> x.gate(0, 7), x -> x.gate(1, 0), x -> x.gauge(2, 0, 0),
            x -> x.gauge(0, 0, 8), x -> x.see(0, 0, 5), x -> x.see(3, 95, -1), x -> x.ends(0), x -> x.knob(0, 5, 0, 1, 1, 0),
            x -> x.knob(1, 8, 0, 9, 3, 2), x -> x.take(0), x -> x.weigh(3, 1), x -> x.rain(3, 23, 1), x -> x.warn(0, 1, 0, 0),
            x -> x.laySwap(), x -> x.startB(1, 0), x -> x.keep(), x -> x.back(), x -> Checks.swap(x, 5, "oab;")};
        List<String> as = Lands.probe(Lands.rich());
        for (int k = 0; k < changes.length; k++) {
            RiverModel x = Lands.rich();
            C.due("change " + k + " is taken", changes[k].on(x) >= 0 ? 1 : 0, 1);
            C.due("change " + k + " is told", Lands.probe(x).equals(as) ? 1 : 0, 0);
        }
    }

    /** So that one number changed is the one that is refused. */
    private static void fineNumbersAreTaken() {
        C.of("Terms", "BAD: a number is none that is told.");
        for (Asked asked : Asked.all()) {
            RiverModel x = asked.name().equals("swap") ? richWith("zb;") : Lands.rich();
            long answer = asked.by().ask(x, asked.fine());
            boolean isRefused = answer == asked.bad() || answer == asked.no() || answer == FULL || answer == NONE;
            C.due(asked.name() + " of fine numbers is refused", isRefused ? 1 : 0, 0);
        }
    }

    /** Every meeting of edges: BAD comes first, then NO, as there is no MODEL. */
    private static void allEdgesOfANewObject() {
        C.of("Terms", "Of several the first; nothing changes then.");
        for (Asked asked : Asked.all()) {
            RiverModel x = new RiverModel();
            int calls = 0;
            for (long[] a : meetings(asked)) {
                if (!asked.needsModel() || calls == 500) {
                    x = new RiverModel();
                    calls = 0;
                }
                calls++;
                meeting(asked, x, a);
            }
        }
    }

    /** Whatever else a MODEL has not, or is not as things stand: BAD comes first. */
    private static void badEdgesOfABuiltLand() {
        C.of("Terms", "Of several the first; nothing changes then.");
        for (Asked asked : Asked.all()) {
            RiverModel x = richAt(96);
            int calls = 0;
            for (long[] a : meetings(asked)) {
                if (!areTold(asked, a)) {
                    C.due(asked.name() + Arrays.toString(a) + " at the end", asked.by().ask(x, a), asked.bad());
                    calls++;
                }
                if (calls == 400) {
                    x = richAt(96);
                    calls = 0;
                }
            }
        }
    }

    private static boolean areTold(Asked asked, long[] a) {
        boolean areTold = true;
        for (int place = 0; place < a.length; place++) {
            areTold &= asked.isTold(place, a[place]);
        }
        return areTold;
    }

    private static void meeting(Asked asked, RiverModel x, long[] a) {
        boolean isTold = areTold(asked, a);
        long answer = asked.by().ask(x, a);
        String call = asked.name() + Arrays.toString(a) + " of a new object";
        if (!isTold) {
            C.due(call, answer, asked.bad());
        } else if (asked.needsModel()) {
            C.due(call, answer, asked.no());
        } else {
            C.due(call + " is taken", answer >= 0 ? 1 : 0, 1);
        }
    }

    private static List<long[]> meetings(Asked asked) {
        List<long[]> rows = new ArrayList<>();
        rows.add(new long[asked.told().length]);
        for (int place = 0; place < asked.told().length; place++) {
            List<long[]> longer = new ArrayList<>();
            for (long[] row : rows) {
                for (long edge : asked.edgesOf(place)) {
                    long[] next = row.clone();
                    next[place] = edge;
                    longer.add(next);
                }
            }
            rows = longer;
        }
        return rows;
    }

    private static void badAloneChangesNothing() {
        C.of("Terms", "BAD: a number is none that is told.");
        for (Asked asked : Asked.all()) {
            for (int place = 0; place < asked.told().length; place++) {
                for (long edge : asked.edgesOf(place)) {
                    if (!asked.isTold(place, edge)) {
                        long[] a = asked.fine().clone();
                        a[place] = edge;
                        String call = asked.name() + Arrays.toString(a);
                        unchanged(call, Lands::rich, x -> asked.by().ask(x, a), asked.bad());
                    }
                }
            }
        }
    }

    private static void no(String call, Call on) {
        unchanged(call, Lands::rich, on, NO);
    }

    private static void noOfABuiltLand() {
        C.of("Terms", "an ITEM (0 to 39, else BAD), a STORE (0 to 15: its NAME), a GATE (0 to 3) that THE MODEL has not");
        int[] items = {13, 39};
        for (int i : items) {
            no("item(" + i + ", 0)", x -> x.item(i, 0));
            no("flow(" + i + ")", x -> x.flow(i));
            no("gauge(0, 0, " + i + ")", x -> x.gauge(0, 0, i));
            no("knob(0, " + i + ")", x -> x.knob(0, i, 0, 1, 1, 1));
            no("swap(" + i + ")", x -> x.swap(i));
        }
        int[] stores = {2, 4, 15};
        for (int store : stores) {
            no("has(" + store + ", 0)", x -> x.has(store, 0));
            no("has(" + store + ", 1)", x -> x.has(store, 1));
            no("gauge(0, 1, " + store + ")", x -> x.gauge(0, 1, store));
            no("best of STORE " + store, x -> x.best(0, 1, 0, store, 100000, 0));
            no("startB(" + store + ", 1)", x -> x.startB(store, 1));
        }
        for (int gate = 2; gate < 4; gate++) {
            int lacking = gate;
            no("gate(" + gate + ", 1)", x -> x.gate(lacking, 1));
            no("best of GATE " + gate, x -> x.best(lacking, 1, 0, 0, 100000, 0));
        }
        no("knob on an OVERFLOW", x -> x.knob(0, 6, 0, 1, 1, 1));
        no("knob on a STORE's third", x -> x.knob(0, 0, 2, 1, 1, 1));
        no("knob on a second of RAIN", x -> x.knob(1, 3, 1, 1, 1, 0));
        C.of("Terms", "NO: not as things stand");
        no("reads(2)", x -> x.reads(2));
        unchanged("see(2, 0, 1)", Lands::rich, x -> x.see(2, 0, 1), -102);
        no("chance(2, 1, 0)", x -> x.chance(2, 1, 0));
        no("warn(2, 1, 0, 0)", x -> x.warn(2, 1, 0, 0));
        no("peak(2, 1, 0)", x -> x.peak(2, 1, 0));
        no("best of GAUGE 2", x -> x.best(0, 1, 2, 0, 100000, 0));
        no("swapped(2, 1, 0)", x -> x.swapped(2, 1, 0));
        unchanged("blame(2, 0, 0)", Lands::rich, x -> x.blame(2, 0, 0), BLAME_NO);
        no("build() of a FAULT", x -> x.build());
        no("swap(5) of a TEXT with a rest", x -> x.swap(5));
    }

    private static void noOfAnUnbuiltLand() {
        C.of("Terms", "there is no MODEL");
        for (Asked asked : Asked.all()) {
            if (asked.needsModel()) {
                unbuilt(asked.name(), x -> asked.by().ask(x, asked.fine()), asked.no());
            }
        }
        unbuilt("anew()", x -> x.anew(), NO);
        unbuilt("fits()", x -> x.fits(), NO);
        unbuilt("laySwap()", x -> x.laySwap(), NO);
        unbuilt("keep()", x -> x.keep(), NO);
        unbuilt("back()", x -> x.back(), NO);
    }

    private static void unbuilt(String name, Call call, long want) {
        RiverModel x = Lands.unbuilt();
        RiverModel y = Lands.unbuilt();
        C.due(name + " of no MODEL", call.on(x), want);
        for (int what = 0; what <= 8; what++) {
            C.due(name + " of no MODEL: count(" + what + ")", x.count(what), y.count(what));
        }
        C.due(name + " of no MODEL: build()", x.build(), y.build());
        same(name + " of no MODEL", Lands.probe(x), Lands.probe(y));
    }

    private static RiverModel richAt(int hours) {
        RiverModel x = Lands.rich();
        x.run(hours - 5);
        return x;
    }

    private static void noOfThingsAsTheyStand() {
        C.of("Promise 24", "beyond HOUR 95");
        unchanged("chance to HOUR 96", () -> richAt(73), x -> x.chance(0, 24, 0), NO);
        unchanged("warn to HOUR 96", () -> richAt(73), x -> x.warn(0, 24, 0, 0), NO);
        unchanged("peak to HOUR 96", () -> richAt(73), x -> x.peak(0, 24, 0), NO);
        unchanged("best to HOUR 96", () -> richAt(73), x -> x.best(0, 6, 0, 0, 100000, 0), NO);
        unchanged("warn at the end", () -> richAt(96), x -> x.warn(0, 1, 0, 0), NO);
        C.of("Promise 11", "no HOUR was");
        unchanged("flow(5), no HOUR was", RefusalsTest::richAnew, x -> x.flow(5), NO);
        unchanged("reads(0), no HOUR was", RefusalsTest::richAnew, x -> x.reads(0), NO);
        C.of("Promise 35", "NO.");
        unchanged("back() of none", RefusalsTest::richOfNoneKept, x -> x.back(), NO);
        C.of("Promise 31", "NO.");
        unchanged("laySwap() of nothing", RefusalsTest::richOfNoSwap, x -> x.laySwap(), NO);
        unchanged("swapped() of nothing", RefusalsTest::richOfNoSwap, x -> x.swapped(0, 1, 0), NO);
        C.of("Promise 5", "NO: a FAULT, or no STORE.");
        unchanged("build() of an empty TEXT", () -> richWith(""), x -> x.build(), NO);
        unchanged("build() of a rest", () -> richWith("sa,1,1;s"), x -> x.build(), NO);
        unchanged("build() of forty-one", () -> richWith("sa,1,1;" + "za;".repeat(40)), x -> x.build(), NO);
    }

    private static RiverModel richAnew() {
        RiverModel x = Lands.rich();
        x.anew();
        return x;
    }

    private static RiverModel richOfNoneKept() {
        RiverModel x = Lands.rich();
        x.back();
        x.back();
        x.run(1);
        return x;
    }

    private static RiverModel richOfNoSwap() {
        RiverModel x = Lands.rich();
        x.laySwap();
        x.run(4);
        x.keep();
        return x;
    }

    private static RiverModel richWith(String text) {
        RiverModel x = Lands.rich();
        Checks.put(x, text);
        return x;
    }

    private static void fullChangesNothing() {
        C.of("Promise 2", "BAD; FULL.");
        String most = "sa,1,1;" + "x".repeat(393);
        for (int n = 1; n <= 8; n++) {
            int bytes = n;
            unchanged("write(" + n + ") at 400", () -> richWith(most), x -> x.write(bytes, -1), FULL);
            unchanged("write(" + n + ") to 401", () -> richWith(most.substring(bytes - 1)), x -> x.write(bytes, -1), FULL);
        }
        unchanged("write(9) at 400", () -> richWith(most), x -> x.write(9, -1), BAD);
        unchanged("write(0) at 400", () -> richWith(most), x -> x.write(0, -1), BAD);
        C.of("Promise 9", "FULL: beyond 96.");
        unchanged("run to 97", Lands::rich, x -> x.run(92), FULL);
        unchanged("run(96)", Lands::rich, x -> x.run(96), FULL);
        unchanged("run(97)", Lands::rich, x -> x.run(97), BAD);
        unchanged("run(1) at the end", () -> richAt(96), x -> x.run(1), FULL);
        unchanged("run(0) at the end", () -> richAt(96), x -> x.run(0), BAD);
        C.of("Promise 34", "NO: no MODEL; FULL.");
        unchanged("the fourth keep()", RefusalsTest::richOfThreeKept, x -> x.keep(), FULL);
    }

    private static RiverModel richOfThreeKept() {
        RiverModel x = Lands.rich();
        x.keep();
        x.run(3);
        return x;
    }

    private static void noneChangesNothing() {
        C.of("Promise 20", "NONE: not so many, no such KNOB set; BAD; NO.");
        int held = Lands.rich().fits();
        C.due("some of the six points HOLD", held > 1 && held <= 6 ? 1 : 0, 1);
        unchanged("fit of one too many", Lands::rich, x -> x.fit(held, 0), NONE);
        unchanged("fit(-1, 0)", Lands::rich, x -> x.fit(-1, 0), BAD);
        C.of("Promise 21", "NONE; BAD; NO.");
        unchanged("take of one too many", Lands::rich, x -> x.take(held), NONE);
        unchanged("take of the greatest", Lands::rich, x -> x.take(Integer.MAX_VALUE), NONE);
        C.of("Promise 28", "NONE: none keeps the limit");
        for (int i = -1; i < 4; i++) {
            int block = i;
            unchanged("best of block " + i, Lands::rich, x -> x.best(0, 2, 0, 0, -1, block), NONE);
        }
        unchanged("best of block 4", Lands::rich, x -> x.best(0, 2, 0, 0, -1, 4), BAD);
        unchanged("best of GATE 2", Lands::rich, x -> x.best(2, 2, 0, 0, -1, 0), NO);
    }

    private static void swapsRefused() {
        C.of("Promise 29", "NO: THE TEXT is not just one ITEM as told, or of a kind that may not be, too.");
        String[] texts = {"", "lab,1,9,3", "lab,1,9,3;lab,1,9,3;", "lab,10,9,3;", "lac,1,9,3;", "laa,1,9,3;", "gab,1;", "sa,1,1;", "x"};
        for (String text : texts) {
            unchanged("swap(5) of " + text, () -> richWith(text), x -> x.swap(5), NO);
        }
        unchanged("swap(0) of another STORE", () -> richWith("sb,1,1;"), x -> x.swap(0), NO);
        unchanged("swap(8) of no GATE", () -> richWith("oab;"), x -> x.swap(8), NO);
        unchanged("swap(1) of no STORE", () -> richWith("zb;"), x -> x.swap(1), NO);
        unchanged("swap(40) of an ITEM", () -> richWith("zb;"), x -> x.swap(40), BAD);
        unchanged("swap(40) of nothing", () -> richWith(""), x -> x.swap(40), BAD);
    }

    private static void asks(String name, Call call) {
        unchanged(name, Lands::rich, call, call.on(Lands.rich()));
    }

    private static void askingChangesNothing() {
        C.of("Terms", "THE RUN goes on as a trial");
        String[] askers = {"item", "has", "flow", "book", "reads", "fit", "chance", "booked", "peak", "best", "swapped", "blame", "count"};
        List<String> names = Arrays.asList(askers);
        for (Asked asked : Asked.all()) {
            if (names.contains(asked.name())) {
                asks(asked.name(), x -> asked.by().ask(x, asked.fine()));
            }
        }
        asks("fault", x -> x.fault());
        asks("fits", x -> x.fits());
    }
}
