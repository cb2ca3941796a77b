/** What the tests share: comparing an answer with the one that is due, and texts as write() takes them. */
final class Checks {
    private final String name;
    private int asked = 0;
    private int wrong = 0;

    Checks(String name) {
        this.name = name;
    }

    void due(String call, long got, long want) {
        asked++;
        if (got != want) {
            wrong++;
            System.out.println(name + ": " + call + " answered " + got + ", due is " + want);
        }
    }

    void end() {
        System.out.println(name + ": " + asked + " answers, " + wrong + " not as due");
        if (wrong != 0 || asked == 0) {
            System.exit(1);
        }
    }

    static void put(RiverModel x, String text) {
        x.clear();
        for (int at = 0; at < text.length(); at += 8) {
            int n = Math.min(8, text.length() - at);
            long v = 0;
            for (int k = 0; k < n; k++) {
                v = v << 8 | text.charAt(at + k);
            }
            x.write(n, v);
        }
    }

    static RiverModel built(String text) {
        RiverModel x = new RiverModel();
        put(x, text);
        if (x.build() < 1) {
            System.out.println("the text " + text + " is not built: fault at " + x.fault());
            System.exit(1);
        }
        return x;
    }

    static int swap(RiverModel x, int i, String text) {
        put(x, text);
        return x.swap(i);
    }
}
