/** What the tests share: comparing an answer with the one that is due, and texts as write() takes them. */
final class Checks {
    private final String name;
    private final Document document = new Document();
    private String words = "";
    private int asked = 0;
    private int wrong = 0;

    Checks(String name) {
        this.name = name;
    }

    /** Says by which words of the document the answers that follow are due. */
    void of(String part, String quote) {
        words = " [" + quote + "]";
        due("the words stand in the document, " + part, document.name(part, quote) ? 1 : 0, 1);
    }

    /** Fails for each part of the document that no test has named. */
    void allNamed() {
        words = "";
        if (!document.isThere()) {
            System.out.println(name + ": the document is not there, its words were not compared");
        }
        for (String part : document.notNamed()) {
            due("a test names " + part, 0, 1);
        }
    }

    void due(String call, long got, long want) {
        asked++;
        if (got != want) {
            wrong++;
            System.out.println(name + ": " + call + " answered " + got + ", due is " + want + words);
        }
    }

    void end() {
        System.out.println(name + ": " + asked + " answers, " + wrong + " not as due");
        if (wrong != 0 || asked == 0) {
            System.exit(1);
        }
    }

    static void put(RiverModel x, String text) {
        x.clear();
        append(x, text);
    }

    static void append(RiverModel x, String text) {
        for (int at = 0; at < text.length(); at += 8) {
            int n = Math.min(8, text.length() - at);
            long v = 0;
            for (int k = 0; k < n; k++) {
                v = v << 8 | text.charAt(at + k);
            }
            x.write(n, v);
        }
    }

    static RiverModel written(String text) {
        RiverModel x = new RiverModel();
        append(x, text);
        return x;
    }

    static RiverModel built(String text) {
        RiverModel x = written(text);
        if (x.build() < 1) {
            System.out.println("the text " + text + " is not built: fault at " + x.fault());
            System.exit(1);
        }
        return x;
    }

    static int swap(RiverModel x, int i, String text) {
        put(x, text);
        return x.swap(i);
    }
}
