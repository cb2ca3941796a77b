import java.util.ArrayList;
import java.util.List;

/** Objects in which nothing is as it is at first, and all that can be asked of them. */
final class Lands {
    static final String LAND = "sa,500,90;sb,80,70;sd,9,4;ra,80;nb,90;lab,3,7,11;obd;mba,2;gad,9;gba,3;ed,7;tdb,5;zb;";
    // a TEXT with a rest, which a probe brings to its end
    private static final String REST = "sc,41,17;z";
    private static final int ITEMS = 13;
    private static final int[] STORES = {0, 1, 3};
    private static final int[] HOURS = {0, 1, 4, 94, 95};

    private final List<String> told = new ArrayList<>();
    private final RiverModel x;

    private Lands(RiverModel asked) {
        x = asked;
    }

    /** No MODEL, but a TEXT that may be BUILT; WEATHER, WORLDS and ENDS are set. */
    static RiverModel unbuilt() {
        RiverModel x = Checks.written(LAND);
        for (int hour = 0; hour < 96; hour += 4) {
            x.weather(0, hour, 20 + hour * 37 % 301, hour * 7 % 41 - 9);
        }
        for (int hour = 1; hour < 96; hour += 11) {
            x.weather(1, hour, 400 - hour, hour % 9 - 3);
        }
        for (int world = 0; world < 3; world++) {
            x.weigh(world, 10 + 30 * world);
            x.rain(world, world, 500 * world + 40);
            x.rain(world, 23, 77 + world);
        }
        x.ends(60000);
        return x;
    }

    /** A MODEL, its RUN in HOUR 5, two KEPT, one ITEM SWAPPED, GAUGE 2 not set. */
    static RiverModel rich() {
        RiverModel x = unbuilt();
        x.build();
        x.gauge(0, 0, 8);
        x.gauge(1, 1, 0);
        x.gauge(3, 1, 3);
        x.see(0, 0, 45);
        x.see(1, 4, 90);
        x.see(3, 95, 2);
        x.knob(0, 5, 0, 1, 1, 3);
        x.knob(1, 8, 0, 9, 2, 2);
        x.startB(0, 33);
        x.startB(3, 999);
        x.gate(0, 3);
        x.run(2);
        x.keep();
        x.gate(1, 8);
        x.run(1);
        x.keep();
        x.gate(0, 6);
        x.run(2);
        Checks.swap(x, 5, "lab,1,9,2;");
        Checks.put(x, REST);
        x.warn(0, 5, 10, 50);
        x.warn(1, 5, 100, 100);
        x.warn(0, 9, 53, 0);
        x.warn(3, 9, 100000, 7);
        return x;
    }

    private void tell(String call, long answer) {
        told.add(call + " = " + answer);
    }

    /** All that can be asked, as one row; what is asked last changes the object, so this is for once. */
    static List<String> probe(RiverModel x) {
        Lands lands = new Lands(x);
        lands.counts();
        lands.model();
        lands.run();
        lands.trials();
        lands.settings();
        lands.runToItsEnd();
        lands.keptOnes();
        lands.keptOnes();
        lands.tell("back", x.back());
        lands.swapAndText();
        return lands.told;
    }

    private void counts() {
        for (int what = 0; what <= 8; what++) {
            tell("count " + what, x.count(what));
        }
        for (int what = 0; what <= 3; what++) {
            tell("booked " + what, x.booked(what));
        }
        tell("fault", x.fault());
    }

    private void model() {
        for (int i = 0; i <= ITEMS; i++) {
            for (int what = 0; what <= 5; what++) {
                tell("item " + i + " " + what, x.item(i, what));
            }
        }
    }

    private void run() {
        for (int i = 0; i < ITEMS; i++) {
            tell("flow " + i, x.flow(i));
        }
        for (int store : STORES) {
            tell("has " + store, x.has(store, 0));
            tell("under way to " + store, x.has(store, 1));
        }
        for (int what = 0; what <= 5; what++) {
            tell("book " + what, x.book(what));
        }
        for (int k = 0; k < 4; k++) {
            tell("reads " + k, x.reads(k));
        }
    }

    private void trials() {
        tell("fits", x.fits());
        for (int i = 0; i < 3; i++) {
            tell("fit " + i + " 0", x.fit(i, 0));
            tell("fit " + i + " 1", x.fit(i, 1));
        }
        for (int k = 0; k < 4; k++) {
            tell("chance " + k, x.chance(k, 9, 20));
            tell("swapped first " + k, x.swapped(k, 96, 0));
            tell("swapped sum " + k, x.swapped(k, 96, 1));
        }
        for (int world = -1; world < 4; world++) {
            tell("peak 1 " + world, x.peak(1, 24, world));
        }
        tell("best", x.best(0, 1, 1, 0, 100000, -1));
        tell("best 0", x.best(0, 1, 1, 0, 100000, 0));
        for (int h : HOURS) {
            for (int part = 0; part <= 3; part++) {
                tell("blame " + h + " " + part, x.blame(1, h, part));
            }
        }
    }

    private void settings() {
        tell("ends", x.ends(0));
        for (int world = 0; world < 4; world++) {
            tell("weigh " + world, x.weigh(world, 0));
            for (int i : new int[] {0, 1, 2, 23}) {
                tell("rain " + world + " " + i, x.rain(world, i, 0));
            }
        }
        for (int k = 0; k < 4; k++) {
            for (int hour : HOURS) {
                tell("see " + k + " " + hour, x.see(k, hour, -1));
            }
        }
        for (int store : STORES) {
            tell("startB " + store, x.startB(store, 0));
        }
        openings();
    }

    private void openings() {
        for (int gate = 0; gate < 2; gate++) {
            int was = x.gate(gate, 0);
            tell("gate " + gate, was);
            x.gate(gate, was);
        }
    }

    private void runToItsEnd() {
        for (int k = 0; k < 3; k++) {
            tell("run", x.run(7));
            tell("book 0", x.book(0));
        }
        tell("run on", x.run(Math.max(1, 96 - x.count(4))));
        for (int what = 0; what <= 4; what++) {
            tell("book " + what + " at the end", x.book(what));
        }
    }

    private void keptOnes() {
        tell("back", x.back());
        tell("hours", x.count(4));
        openings();
        run();
    }

    private void swapAndText() {
        tell("laySwap", x.laySwap());
        for (int what = 0; what <= 5; what++) {
            tell("item 5 " + what, x.item(5, what));
        }
        tell("write", x.write(2, 'c' << 8 | ';'));
        tell("fault", x.fault());
        tell("build", x.build());
        tell("item 0 3", x.item(0, 3));
        tell("has 2", x.has(2, 0));
    }
}
