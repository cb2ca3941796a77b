import java.util.ArrayList;
import java.util.List;

/** A call of the face with what is told of each of its numbers; fine are numbers that Lands.rich() takes. */
record Asked(String name, boolean needsModel, long bad, long no, long[][] told, long[] fine, By by) {
    interface By {
        long ask(RiverModel x, long[] a);
    }

    private static final long[] ANY = {Long.MIN_VALUE, Long.MAX_VALUE};
    private static final long[] ITEM = {0, 39}, STORE = {0, 15}, GATE = {0, 3}, GAUGE = {0, 3}, WORLD = {0, 3}, AHEAD = {1, 24}, HOUR = {0, 95};

    static List<Asked> all() {
        List<Asked> all = new ArrayList<>();
        texts(all);
        runs(all);
        gauges(all);
        worlds(all);
        swaps(all);
        return all;
    }

    private static Asked plain(String name, boolean needsModel, long[][] told, long[] fine, By by) {
        return new Asked(name, needsModel, RiverModel.BAD, RiverModel.NO, told, fine, by);
    }

    private static long[] to(long least, long most) {
        return new long[] {least, most};
    }

    private static long[][] told(long[]... each) {
        return each;
    }

    private static long[] fine(long... each) {
        return each;
    }

    private static void texts(List<Asked> all) {
        all.add(plain("write", false, told(to(1, 8), ANY), fine(2, 0x6363), (x, a) -> x.write((int) a[0], a[1])));
        all.add(plain("item", true, told(ITEM, to(0, 5)), fine(5, 4), (x, a) -> x.item((int) a[0], (int) a[1])));
    }

    private static void runs(List<Asked> all) {
        all.add(plain("weather", false, told(to(0, 1), HOUR, to(0, 10000), to(-30, 40)), fine(0, 33, 44, 5),
            (x, a) -> x.weather((int) a[0], (int) a[1], (int) a[2], (int) a[3])));
        all.add(plain("run", true, told(to(1, 96)), fine(2), (x, a) -> x.run((int) a[0])));
        all.add(plain("has", true, told(STORE, to(0, 1)), fine(3, 1), (x, a) -> x.has((int) a[0], (int) a[1])));
        all.add(plain("flow", true, told(ITEM), fine(5), (x, a) -> x.flow((int) a[0])));
        all.add(plain("gate", true, told(GATE, to(0, 10)), fine(1, 2), (x, a) -> x.gate((int) a[0], (int) a[1])));
        all.add(plain("book", true, told(to(0, 5)), fine(3), (x, a) -> x.book((int) a[0])));
    }

    private static void gauges(List<Asked> all) {
        all.add(plain("gauge of", true, told(GAUGE, to(0, 1)), fine(1, 0), (x, a) -> x.gauge((int) a[0], (int) a[1], 0)));
        all.add(plain("gauge of an ITEM", true, told(GAUGE, ITEM), fine(1, 4), (x, a) -> x.gauge((int) a[0], 0, (int) a[1])));
        all.add(plain("gauge of a STORE", true, told(GAUGE, STORE), fine(1, 3), (x, a) -> x.gauge((int) a[0], 1, (int) a[1])));
        all.add(plain("reads", true, told(GAUGE), fine(1), (x, a) -> x.reads((int) a[0])));
        all.add(new Asked("see", true, -100, -102, told(GAUGE, HOUR, to(-1, 10000000)), fine(1, 4, 3),
            (x, a) -> x.see((int) a[0], (int) a[1], (int) a[2])));
        all.add(plain("ends", false, told(to(0, 100000)), fine(9), (x, a) -> x.ends((int) a[0])));
        all.add(plain("knob", true, told(to(0, 1), ITEM, to(0, 2), to(0, 1000000), to(1, 1000000), to(0, 16)), fine(1, 5, 1, 8, 2, 3),
            (x, a) -> x.knob((int) a[0], (int) a[1], (int) a[2], (int) a[3], (int) a[4], (int) a[5])));
        all.add(plain("fit", true, told(to(0, Integer.MAX_VALUE), to(0, 1)), fine(1, 0), (x, a) -> x.fit((int) a[0], (int) a[1])));
        all.add(plain("take", true, told(to(0, Integer.MAX_VALUE)), fine(1), (x, a) -> x.take((int) a[0])));
    }

    private static void worlds(List<Asked> all) {
        all.add(plain("weigh", false, told(WORLD, to(0, 100)), fine(1, 2), (x, a) -> x.weigh((int) a[0], (int) a[1])));
        all.add(plain("rain", false, told(WORLD, to(0, 23), to(0, 10000)), fine(1, 2, 3), (x, a) -> x.rain((int) a[0], (int) a[1], (int) a[2])));
        all.add(plain("chance", true, told(GAUGE, AHEAD, ANY), fine(1, 6, 5), (x, a) -> x.chance((int) a[0], (int) a[1], a[2])));
        all.add(plain("warn", true, told(GAUGE, AHEAD, ANY, to(0, 100)), fine(1, 6, 5, 50),
            (x, a) -> x.warn((int) a[0], (int) a[1], a[2], (int) a[3])));
        all.add(plain("booked", false, told(to(0, 3)), fine(1), (x, a) -> x.booked((int) a[0])));
        all.add(plain("peak", true, told(GAUGE, AHEAD, to(-1, 3)), fine(1, 6, 2), (x, a) -> x.peak((int) a[0], (int) a[1], (int) a[2])));
        all.add(plain("best", true, told(GATE, to(1, 6), GAUGE, STORE, ANY, to(-1, 3)), fine(1, 1, 0, 0, 100000, 2),
            (x, a) -> x.best((int) a[0], (int) a[1], (int) a[2], (int) a[3], a[4], (int) a[5])));
    }

    private static void swaps(List<Asked> all) {
        all.add(plain("swap", true, told(ITEM), fine(12), (x, a) -> x.swap((int) a[0])));
        all.add(plain("swapped", true, told(GAUGE, to(1, 96), to(0, 1)), fine(1, 50, 1), (x, a) -> x.swapped((int) a[0], (int) a[1], (int) a[2])));
        all.add(plain("startB", true, told(STORE, to(0, 1000000)), fine(3, 33), (x, a) -> x.startB((int) a[0], (int) a[1])));
        all.add(new Asked("blame", true, -1000000000000000000L, -1000000000000000001L, told(GAUGE, HOUR, to(0, 3)), fine(1, 40, 3),
            (x, a) -> x.blame((int) a[0], (int) a[1], (int) a[2])));
        all.add(plain("count", false, told(to(0, 8)), fine(4), (x, a) -> x.count((int) a[0])));
    }

    boolean isTold(int place, long v) {
        return v >= told[place][0] && v <= told[place][1];
    }

    /** The least and the greatest that are told, those next to them, and the least and greatest of all. */
    List<Long> edgesOf(int place) {
        List<Long> edges = new ArrayList<>(List.of(told[place][0], told[place][1]));
        if (told[place] == ANY) {
            return edges;
        }
        long[] others = {told[place][0] - 1, told[place][1] + 1, Integer.MIN_VALUE, Integer.MAX_VALUE};
        for (long other : others) {
            if (other == (int) other && !edges.contains(other)) {
                edges.add(other);
            }
        }
        return edges;
    }
}
