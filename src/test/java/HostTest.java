/** Promises 25 to 29: the host's sheets, and casts. */
public final class HostTest {
    private static final Check check = new Check("HostTest");
    private static final int MIN = Integer.MIN_VALUE, MAX = Integer.MAX_VALUE;

    public static void main(String[] args) {
        sheets();
        cells();
        copies();
        copiesOntoItself();
        peopleRefuses();
        people();
        peopleOutside();
        peopleFull();
        taken();
        check.end();
    }

    private static void sheets() {
        RememberedAsSunny x = new RememberedAsSunny();
        int[][] rows = { // sheet, sort, n, due
            {-1, 0, 1, -2}, {4, 0, 1, -2}, {MIN, 0, 1, -2}, {MAX, 0, 1, -2}, {0, -2, 1, -2}, {0, 3, 1, -2}, {0, MIN, 1, -2},
            {0, MAX, 1, -2}, {0, 0, 41, -2}, {0, 0, MAX, -2}, {0, 0, -1, -14}, {0, 2, MIN, -14}, {4, 0, -1, -2}, {0, 3, -1, -2},
            {4, -1, 0, -2}, {0, -1, 41, 1}, {0, -1, -1, 1}, {0, -1, MIN, 1}, {0, 0, 0, 1}, {1, 1, 40, 1}, {3, 2, 1, 1}};
        for (int[] r : rows) {
            check.due("sheet(" + r[0] + ", " + r[1] + ", " + r[2] + ")", x.sheet(r[0], r[1], r[2]), r[3]);
        }
        check.due("none of 0", x.cell(0, 0, 1), -12);
        check.due("the last of 40", x.cell(1, 39, 1), 1);
        check.due("behind 40", x.cell(1, 40, 1), -12);
        check.due("a missing sheet", x.cell(2, 0, 1), -11);
        check.due("refused, it stays", x.sheet(1, 1, 41), -2);
        check.due("refused, it stays", x.sheet(1, 1, -1), -14);
        check.due("the last of 40", x.cell(1, 39, 1), 1);
        check.due("gone", x.sheet(1, -1, 7), 1);
        check.due("gone", x.cell(1, 0, 1), -11);
        // Anew it is all 0: read back by who comes.
        Check.write(x, 2, 1, 5, 9, 5, 9);
        x.sheet(2, 1, 4);
        check.due("all 0", x.people(2, 1, 0, 2), 2);
        check.due("KIND", x.told(0, 7) + x.told(1, 7), 0);
        check.due("NUMBER", x.told(0, 5) + x.told(1, 5), 0);
    }

    private static void cells() {
        RememberedAsSunny x = new RememberedAsSunny();
        int[] none = {-1, 4, MIN, MAX};
        for (int sheet : none) {
            check.due("cell(" + sheet + ", 0, 0)", x.cell(sheet, 0, 0), -2);
        }
        check.due("cell of nothing", x.cell(0, -1, 0), -11);
        x.sheet(0, 0, 3);
        int[] outside = {-1, 3, MIN, MAX};
        for (int i : outside) {
            check.due("cell(0, " + i + ", 0)", x.cell(0, i, 0), -12);
        }
        // What an item became is read back as one's number.
        int[][] rows = { // sort, v, number, or -1 where none comes
            {0, 9, 9}, {0, 265, 9}, {0, -247, 9}, {0, 10, -1}, {0, 128, -1}, {0, 255, -1}, {0, MIN + 7, 7},
            {1, 9, 9}, {1, 265, -1}, {1, 65545, 9}, {1, -65527, 9}, {1, 32768, -1}, {1, MIN + 7, 7},
            {2, 9, 9}, {2, 265, -1}, {2, 65545, -1}, {2, MIN + 7, -1}};
        for (int[] r : rows) {
            RememberedAsSunny y = new RememberedAsSunny();
            y.sheet(1, r[0], 2);
            check.due("cell(1, 1, " + r[1] + ")", y.cell(1, 1, r[1]), 1);
            check.due("people by " + r[1] + " of sort " + r[0], y.people(1, r[0], 0, 1), r[2] < 0 ? 0 : 1);
            check.due("NUMBER by " + r[1] + " of sort " + r[0], y.told(0, 5), r[2] < 0 ? -1000000 : r[2]);
        }
    }

    /** A sheet of ints against what one thinks by a text: all its 8 items. */
    private static void holds(RememberedAsSunny x, int sheet, int... items) {
        for (int hour = 0; hour < 8; hour++) {
            x.set(3, hour, items[hour]);
        }
        check.due("the items of sheet " + sheet, x.tells(sheet, 0, 0), -1);
    }

    private static void copies() {
        RememberedAsSunny x = new RememberedAsSunny();
        x.person(0, 0);
        Check.write(x, 0, 2, 1, 2, 3, 4, 5, 6, 7, 8);
        Check.write(x, 1, 2, 0, 0, 0, 0, 0, 0, 0, 0);
        Check.write(x, 2, 1, 1, 1, 1);
        int[][] rows = { // sheet, i, other, j, n, due
            {-1, 0, 0, 0, 1, -2}, {4, 0, 0, 0, 1, -2}, {0, 0, -1, 0, 1, -2}, {0, 0, 4, 0, 1, -2}, {3, 0, 4, 0, 1, -2},
            {MIN, 0, 0, 0, 1, -2}, {0, 0, MAX, 0, 1, -2}, {4, -1, 3, -1, -1, -2},
            {0, 0, 3, 0, 1, -11}, {3, 0, 0, 0, 1, -11}, {3, 0, 3, 0, 1, -11}, {3, 0, 2, 0, -1, -11},
            {0, 0, 2, 0, 1, -13}, {2, 0, 0, 0, 1, -13}, {2, -1, 0, 0, -1, -13},
            {0, -1, 1, 0, 1, -12}, {0, 0, 1, -1, 1, -12}, {0, 0, 1, 0, -1, -12}, {0, 8, 1, 0, 1, -12}, {0, 0, 1, 8, 1, -12},
            {0, 1, 1, 0, 8, -12}, {0, 0, 1, 1, 8, -12}, {0, 0, 1, 0, 9, -12}, {0, 9, 1, 0, 0, -12}, {0, 0, 1, 9, 0, -12},
            {0, MAX, 1, 0, 1, -12}, {0, 1, 1, 0, MAX, -12}, {0, MAX, 1, MAX, MAX, -12}, {0, MIN, 1, 0, MIN, -12}, {0, 0, 1, 0, MIN, -12},
            {0, -1, 1, 0, 0, -12}, {0, 8, 1, 8, 0, 0}, {0, 0, 1, 0, 0, 0}};
        for (int[] r : rows) {
            check.due("copy(" + r[0] + ", " + r[1] + ", " + r[2] + ", " + r[3] + ", " + r[4] + ")",
                x.copy(r[0], r[1], r[2], r[3], r[4]), r[5]);
        }
        holds(x, 1, 0, 0, 0, 0, 0, 0, 0, 0);
        check.due("copy(0, 2, 1, 5, 3)", x.copy(0, 2, 1, 5, 3), 3);
        holds(x, 1, 0, 0, 0, 0, 0, 3, 4, 5);
        holds(x, 0, 1, 2, 3, 4, 5, 6, 7, 8);
        check.due("copy(0, 0, 1, 0, 8)", x.copy(0, 0, 1, 0, 8), 8);
        holds(x, 1, 1, 2, 3, 4, 5, 6, 7, 8);
        check.due("copy of another size", x.copy(2, 0, 2, 0, 3), 3);
        Check.write(x, 3, 2, 9, 9);
        check.due("copy(3, 0, 1, 3, 2)", x.copy(3, 0, 1, 3, 2), 2);
        holds(x, 1, 1, 2, 3, 9, 9, 6, 7, 8);
        check.due("behind the smaller's end", x.copy(0, 0, 3, 1, 2), -12);
    }

    private static void copiesOntoItself() {
        RememberedAsSunny x = new RememberedAsSunny();
        x.person(0, 0);
        Check.write(x, 0, 2, 1, 2, 3, 4, 5, 6, 7, 8);
        check.due("on", x.copy(0, 0, 0, 2, 5), 5);
        holds(x, 0, 1, 2, 1, 2, 3, 4, 5, 8);
        Check.write(x, 0, 2, 1, 2, 3, 4, 5, 6, 7, 8);
        check.due("back", x.copy(0, 3, 0, 1, 5), 5);
        holds(x, 0, 1, 4, 5, 6, 7, 8, 7, 8);
    }

    private static void peopleRefuses() {
        RememberedAsSunny x = new RememberedAsSunny();
        Check.write(x, 0, 1, 0, 0, 0, 0);
        int[][] rows = { // sheet, sort, from, n, due
            {-1, 1, 0, 1, -2}, {4, 1, 0, 1, -2}, {0, -1, 0, 1, -2}, {0, 3, 0, 1, -2}, {0, 1, 0, -1, -2}, {0, 1, 0, 7, -2},
            {MIN, 1, 0, 1, -2}, {0, MAX, 0, 1, -2}, {0, 1, 0, MIN, -2}, {0, 1, 0, MAX, -2}, {1, 3, 0, 1, -2}, {1, -1, 0, 1, -2},
            {1, 0, 0, 7, -2}, {0, 0, 0, 1, -13}, {0, 2, 0, 1, -13}, {0, 2, 0, 0, -13}, {0, 0, -1, 1, -13},
            {1, 0, 0, 1, -11}, {1, 1, 0, 0, -11}, {1, 2, -1, 1, -11}, {0, 1, 0, 0, 0}, {0, 1, 4, 0, 0},
            {0, 1, -1, 1, -12}, {0, 1, 4, 1, -12}, {0, 1, 3, 1, -12}, {0, 1, MAX, 1, -12}, {0, 1, MIN, 6, -12}, {0, 1, MAX - 1, 2, -12},
            {0, 1, -2, 3, -12}};
        for (int[] r : rows) {
            check.due("people(" + r[0] + ", " + r[1] + ", " + r[2] + ", " + r[3] + ")", x.people(r[0], r[1], r[2], r[3]), r[4]);
        }
        check.due("nobody came", x.count(0), 0);
        for (int sort = 0; sort < 3; sort++) {
            x.sheet(2, sort, 2);
            for (int other = 0; other < 3; other++) {
                check.due("taken for one of another sort", x.people(2, other, 0, 1), other == sort ? 1 : -13);
            }
        }
    }

    private static void people() {
        RememberedAsSunny x = new RememberedAsSunny();
        Check.write(x, 0, 2, 8, 3, 7, 6, 0, 0, 10, -1, 5, 2, -1, 5, 9);
        check.due("people(0, 2, 1, 6)", x.people(0, 2, 1, 6), 2);
        check.due("KIND", x.told(0, 7), 3);
        check.due("NUMBER", x.told(0, 5), 7);
        check.due("PREMIUM", x.told(0, 6), 5);
        check.due("KIND", x.told(1, 7), 5);
        check.due("NUMBER", x.told(1, 5), 9);
        check.due("count(0)", x.count(0), 2);
        x.cell(0, 11, 6);
        check.due("up to the end", x.people(0, 2, 11, 1), 0);
        x.cell(0, 11, 4);
        check.due("up to the end", x.people(0, 2, 11, 1), 1);
        check.due("KIND", x.told(2, 7), 4);
    }

    private static void peopleOutside() {
        RememberedAsSunny x = new RememberedAsSunny();
        Check.write(x, 0, 0, 1, 2, 9, 9, 3, 4, 5);
        check.due("people(0, 0, 0, 4)", x.people(0, 0, 0, 4), -12);
        check.due("what stood ahead came", x.count(0), 2);
        check.due("KIND", x.told(0, 7), 1);
        check.due("KIND", x.told(1, 7), 3);
        check.due("people(0, 0, 4, 1)", x.people(0, 0, 4, 1), 1);
        check.due("people(0, 0, 6, 1)", x.people(0, 0, 6, 1), -12);
        check.due("people(0, 0, 5, 2)", x.people(0, 0, 5, 2), -12);
        check.due("count(0)", x.count(0), 4);
        check.due("NUMBER", x.told(3, 5), 5);
        check.due("KIND", x.told(3, 7), 4);
    }

    private static void peopleFull() {
        RememberedAsSunny x = new RememberedAsSunny();
        for (int i = 0; i < 4; i++) {
            x.person(0, 0);
        }
        Check.write(x, 0, 0, 1, 1, 2, 2, 3, 3, 4, 4);
        check.due("two have room", x.people(0, 0, 0, 4), 2);
        check.due("KIND", x.told(5, 7), 2);
        check.due("none has room", x.people(0, 0, 0, 4), 0);
        check.due("outside all the same", x.people(0, 0, 0, 5), -12);
        check.due("count(0)", x.count(0), 6);
    }

    private static void taken() {
        RememberedAsSunny x = new RememberedAsSunny();
        for (int kind = 0; kind < 6; kind++) {
            x.person(kind, 9 - kind);
        }
        String[] under = {"100000", "110000", "101000", "110100", "101010", "100001"};
        for (int one = 0; one < 6; one++) {
            for (int k = 0; k < 6; k++) {
                check.due("taken(" + one + ", " + k + ")", x.taken(one, k), under[one].charAt(k) == '1' ? 9 - one : -13);
            }
        }
        int[] none = {-1, 6, MIN, MAX};
        for (int b : none) {
            check.due("taken(0, " + b + ")", x.taken(0, b), -2);
            check.due("taken(" + b + ", 0)", x.taken(b, 0), -11);
            check.due("taken(" + b + ", " + b + ")", x.taken(b, b), -2);
        }
        x.set(5, 4, 0);
        check.due("taken(4, 2), another number", x.taken(4, 2), 0);
    }
}
