/** Counts the answers of a test, and prints each that is not the one that is due. */
final class Check {
    private final String test;
    private int passed = 0;
    private int failed = 0;

    Check(String test) {
        this.test = test;
    }

    void due(String call, long got, long want) {
        if (got == want) {
            passed++;
        } else {
            failed++;
            System.out.println(test + ": " + call + " answered " + got + ", due is " + want);
        }
    }

    void that(String what, boolean holds) {
        due(what, holds ? 1 : 0, 1);
    }

    /** Ends the test: with exit code 1, if an answer was not the one that is due. */
    void end() {
        System.out.println(test + ": " + passed + " passed, " + failed + " failed");
        if (failed > 0 || passed == 0) {
            System.exit(1);
        }
    }

    /** Feeds a text without asking for its number. */
    static void feed(RememberedAsSunny x, String text) {
        for (int i = 0; i < text.length(); i++) {
            x.feed(text.charAt(i));
        }
    }

    static int text(RememberedAsSunny x, String text) {
        feed(x, text);
        return x.text();
    }

    /** A text that thinks, and else is THE RULE. */
    static int thinking(RememberedAsSunny x, String thinks) {
        int text = text(x, "thinks " + thinks + ";mends 10-weather;claims 20+years;");
        x.force(text);
        return text;
    }

    static void weathers(RememberedAsSunny x, int... weathers) {
        for (int hour = 0; hour < weathers.length; hour++) {
            x.set(3, hour, weathers[hour]);
        }
    }

    static void write(RememberedAsSunny x, int sheet, int sort, int... items) {
        x.sheet(sheet, sort, items.length);
        for (int i = 0; i < items.length; i++) {
            x.cell(sheet, i, items[i]);
        }
    }
}
