/** Promises 1 to 4: the outing and its people. */
public final class OutingTest {
    private static final Check check = new Check("OutingTest");
    private static final int REFUSED = -1000000;

    public static void main(String[] args) {
        newObject();
        setAnswersWhatWas();
        setRefuses();
        persons();
        toldRefuses();
        guest();
        mother();
        boy();
        aunt();
        baby();
        widow();
        hazyAtTheLimit();
        bounds();
        check.end();
    }

    private static void newObject() {
        RememberedAsSunny x = new RememberedAsSunny();
        int[] counts = {0, 0, 0, 1, 0, 0};
        for (int what = 0; what < 6; what++) {
            check.due("count(" + what + ")", x.count(what), counts[what]);
        }
        check.due("YEARS", x.told(-5, 0), 0);
        check.due("LIMIT", x.told(99, 1), 0);
        check.due("PURSE", x.told(0, 2), 100);
        for (int hour = 0; hour < 8; hour++) {
            check.due("WEATHER", x.told(hour, 3), 0);
            check.due("MENDED", x.told(hour, 4), 0);
            check.due("COST", x.told(hour, 11), 0);
        }
        check.due("back()", x.back(), -3);
        for (int sheet = 0; sheet < 4; sheet++) {
            check.due("cell", x.cell(sheet, 0, 1), -11);
        }
    }

    private static void setAnswersWhatWas() {
        RememberedAsSunny x = new RememberedAsSunny();
        x.person(0, 3);
        x.person(1, 4);
        int[][] rows = { // what, of, was, least, greatest
            {0, 77, 0, 0, 99}, {1, -77, 0, -999, 999}, {2, Integer.MIN_VALUE, 100, -99999, 99999},
            {3, 0, 0, -9, 9}, {3, 7, 0, -9, 9}, {4, 0, 0, 0, 1}, {4, 7, 0, 0, 1},
            {5, 0, 3, 0, 9}, {5, 1, 4, 0, 9}, {6, 0, 5, 0, 99}, {6, 1, 5, 0, 99}};
        for (int[] r : rows) {
            String call = "set(" + r[0] + ", " + r[1] + ")";
            check.due(call + " too small", x.set(r[0], r[1], r[3] - 1), REFUSED);
            check.due(call + " too great", x.set(r[0], r[1], r[4] + 1), REFUSED);
            check.due(call, x.set(r[0], r[1], r[4]), r[2]);
            check.due(call + " told", x.told(r[1], r[0]), r[4]);
            check.due(call, x.set(r[0], r[1], r[3]), r[4]);
            check.due(call + " refused", x.set(r[0], r[1], Integer.MAX_VALUE), REFUSED);
            check.due(call + " refused", x.set(r[0], r[1], Integer.MIN_VALUE), REFUSED);
            check.due(call + " told", x.told(r[1], r[0]), r[3]);
        }
        x.set(3, 4, 6);
        check.due("the hour ahead", x.told(3, 3), 0);
        check.due("the hour behind", x.told(5, 3), 0);
        x.set(4, 4, 1);
        check.due("the hour ahead", x.told(3, 4), 0);
        check.due("mended alone", x.count(1), 1);
    }

    private static void setRefuses() {
        RememberedAsSunny x = new RememberedAsSunny();
        check.due("set(-1, 0, 0)", x.set(-1, 0, 0), REFUSED);
        check.due("set(7, 0, 0)", x.set(7, 0, 0), REFUSED);
        check.due("set(3, 8, 0)", x.set(3, 8, 0), REFUSED);
        check.due("set(3, -1, 0)", x.set(3, -1, 0), REFUSED);
        check.due("set(4, 8, 0)", x.set(4, 8, 0), REFUSED);
        check.due("set(4, -1, 0)", x.set(4, -1, 0), REFUSED);
        check.due("set(5, 0, 0) of nobody", x.set(5, 0, 0), REFUSED);
        check.due("set(6, 0, 0) of nobody", x.set(6, 0, 0), REFUSED);
        x.person(0, 0);
        check.due("set(5, 1, 0)", x.set(5, 1, 0), REFUSED);
        check.due("set(6, -1, 0)", x.set(6, -1, 0), REFUSED);
    }

    private static void persons() {
        RememberedAsSunny x = new RememberedAsSunny();
        int[][] bad = {{-1, 0}, {6, 0}, {0, -1}, {0, 10}, {Integer.MIN_VALUE, 0}, {0, Integer.MAX_VALUE}};
        for (int[] b : bad) {
            check.due("person(" + b[0] + ", " + b[1] + ")", x.person(b[0], b[1]), -2);
        }
        check.due("count(0)", x.count(0), 0);
        for (int kind = 0; kind < 6; kind++) {
            check.due("person(" + kind + ", " + (9 - kind) + ")", x.person(kind, 9 - kind), kind);
            check.due("KIND", x.told(kind, 7), kind);
            check.due("NUMBER", x.told(kind, 5), 9 - kind);
            check.due("PREMIUM", x.told(kind, 6), 5);
        }
        check.due("a seventh", x.person(0, 0), -4);
        check.due("a bad seventh", x.person(6, 0), -2);
        check.due("count(0)", x.count(0), 6);
    }

    private static void toldRefuses() {
        RememberedAsSunny x = new RememberedAsSunny();
        x.person(0, 0);
        int[] whats = {-1, Integer.MIN_VALUE, 12, 19, 28, 29, 38, Integer.MAX_VALUE};
        for (int what : whats) {
            check.due("told(0, " + what + ")", x.told(0, what), REFUSED);
        }
        int[] ofPeople = {5, 6, 7, 8, 9, 10, 20, 27, 30, 37};
        for (int what : ofPeople) {
            check.due("told(1, " + what + ")", x.told(1, what), REFUSED);
            check.due("told(-1, " + what + ")", x.told(-1, what), REFUSED);
        }
        int[] ofHours = {3, 4, 11};
        for (int what : ofHours) {
            check.due("told(8, " + what + ")", x.told(8, what), REFUSED);
            check.due("told(-1, " + what + ")", x.told(-1, what), REFUSED);
        }
    }

    /** One of a kind on the outing of the weathers 3 -5 9 0 -9 2 7 -1, the hour 1 mended. */
    private static RememberedAsSunny with(int kind, int number) {
        RememberedAsSunny x = new RememberedAsSunny();
        Check.weathers(x, 3, -5, 9, 0, -9, 2, 7, -1);
        x.set(4, 1, 1);
        x.person(kind, number);
        return x;
    }

    private static void row(String name, RememberedAsSunny x, int first, int... want) {
        for (int hour = 0; hour < 8; hour++) {
            check.due(name + " told(0, " + (first + hour) + ")", x.told(0, first + hour), want[hour]);
        }
    }

    private static void guest() {
        RememberedAsSunny x = with(0, 3);
        row("guest", x, 20, 3, 4, 9, 0, -9, 2, 7, -1);
        row("guest", x, 30, 7, 15, 1, 10, 19, 8, 3, 11);
        check.due("guest's memory", x.told(0, 8), 15);
        x.set(1, 0, 16);
        x.set(0, 0, 7);
        check.due("guest's claims", x.told(0, 10), 27);
    }

    private static void mother() {
        RememberedAsSunny x = with(1, 3);
        row("mother", x, 20, 3, 4, 9, 0, 0, 2, 7, 0);
        row("mother", x, 30, 3, 7, 0, 5, 9, 4, 1, 5);
        check.due("mother's memory", x.told(0, 8), 25);
        x.set(1, 0, 26);
        check.due("mother's claims", x.told(0, 10), 20);
    }

    private static void boy() {
        RememberedAsSunny x = with(2, 9);
        row("boy of 9", x, 20, 0, 8, 0, 0, 0, 0, 0, 0);
        row("boy", x, 30, 1, 1, 1, 1, 1, 1, 1, 1);
        x.set(1, 0, 9);
        check.due("boy's claims", x.told(0, 10), 0);
        check.due("boy's haze", x.told(0, 9), 0);
        x.set(5, 0, 8);
        row("boy of 8", x, 20, 6, 0, 0, 0, 0, 0, 0, 0);
        x.set(5, 0, 7);
        row("boy of 7", x, 20, 0, 0, 0, 0, 0, 0, 0, -2);
    }

    private static void aunt() {
        RememberedAsSunny x = with(3, 2);
        row("aunt, 0 years", x, 20, -2, -1, 4, -5, -5, -3, 2, -5);
        row("aunt", x, 30, 5, 9, 2, 7, 11, 6, 3, 7);
        x.set(0, 0, 1);
        row("aunt, 1 year", x, 20, -2, -1, 4, -5, -5, -3, 2, -5);
        x.set(0, 0, 2);
        row("aunt, 2 years", x, 20, 3, 4, 9, 0, 0, 2, 7, 0);
        x.set(1, 0, 999);
        check.due("aunt's claims", x.told(0, 10), 44);
    }

    private static void baby() {
        RememberedAsSunny x = with(4, 2);
        row("baby of 2", x, 20, 0, 0, 18, 0, 0, 0, 0, 9);
        row("baby", x, 30, 1, 1, 1, 1, 1, 1, 1, 1);
        x.set(5, 0, 7);
        row("baby of 7", x, 20, 0, 0, 0, 0, 0, 0, 0, 9);
        x.set(1, 0, 10);
        check.due("baby's claims", x.told(0, 10), 0);
    }

    private static void widow() {
        RememberedAsSunny x = with(5, 4);
        row("widow", x, 20, 3, 4, 9, 0, 9, 2, 7, 1);
        row("widow", x, 30, 0, 0, 0, 0, 0, 0, 0, 0);
        check.due("widow, hazy", x.told(0, 10), 0);
        x.set(1, 0, 36);
        check.due("widow's claims", x.told(0, 10), -4);
    }

    private static void hazyAtTheLimit() {
        RememberedAsSunny x = with(0, 0);
        int[][] rows = {{14, 1, 0}, {15, 1, 0}, {16, 0, 20}};
        for (int[] r : rows) {
            x.set(1, 0, r[0]);
            check.due("HAZY at LIMIT " + r[0], x.told(0, 9), r[1]);
            check.due("CLAIMS at LIMIT " + r[0], x.told(0, 10), r[2]);
        }
    }

    /** What a text tells is bound, and what a kind makes of it is bound again. */
    private static void bounds() {
        RememberedAsSunny x = new RememberedAsSunny();
        int text = Check.text(x, "thinks weather*30;mends 70+weather*10;claims 60+years;");
        x.force(text);
        Check.weathers(x, 9, -9, 2);
        for (int kind = 0; kind < 6; kind++) {
            x.person(kind, kind == 2 || kind == 4 ? 8 : 9);
        }
        int[][] thinks = { // of the hours 0, 1, 2
            {99, -99, 60}, {99, 0, 60}, {99, 0, 0}, {94, -5, 55}, {99, 0, 0}, {99, 99, 60}};
        int[][] mending = {{99, 0, 90}, {49, 0, 45}, {1, 1, 1}, {58, 9, 54}, {1, 1, 1}, {0, 0, 0}};
        for (int one = 0; one < 6; one++) {
            for (int hour = 0; hour < 3; hour++) {
                check.due("bound thinks " + one, x.told(one, 20 + hour), thinks[one][hour]);
                check.due("bound mending " + one, x.told(one, 30 + hour), mending[one][hour]);
            }
        }
        x.set(2, 2, 0);
        x.set(5, 2, 9);
        check.due("a boy's -198", x.told(2, 21), -99);
        x.set(0, 0, 99);
        x.set(1, 0, 999);
        int[] claims = {99, 99, 0, 198, 0, -9};
        for (int one = 0; one < 6; one++) {
            check.due("bound claims " + one, x.told(one, 10), claims[one]);
        }
        check.due("COST", x.told(0, 11), 99 + 49 + 1 + 58 + 1);
    }
}
