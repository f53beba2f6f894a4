/** Promises 18 to 24: memories that were told, weather that is drawn, images, counts. */
public final class ToldTest {
    private static final Check check = new Check("ToldTest");

    public static void main(String[] args) {
        tellsRefuses();
        tellsOfAGuest();
        tellsOfAnAunt();
        tellsOfABoy();
        tellsOfTexts();
        tellsOfLastWeather();
        tellsOfEachSort();
        film();
        drawn();
        chance();
        imageAndBack();
        counts();
        check.end();
    }

    private static void tellsRefuses() {
        RememberedAsSunny x = new RememberedAsSunny();
        Check.write(x, 0, 2, 0, 0, 0, 0, 0, 0, 0, 0);
        check.due("tells(0, 0, 0) of nobody", x.tells(0, 0, 0), -2);
        x.person(0, 0);
        Check.write(x, 1, 2, 0, 0, 0, 0, 0, 0, 0);
        Check.write(x, 2, 2, 0, 0, 0, 0, 0, 0, 0, 0, 0);
        int[][] rows = { // sheet, one, what, due
            {-1, 0, 0, -2}, {4, 0, 0, -2}, {Integer.MIN_VALUE, 0, 0, -2}, {0, -1, 0, -2}, {0, 1, 0, -2}, {0, 0, -1, -2},
            {0, 0, 9, -2}, {0, 0, 18, -2}, {0, 0, Integer.MIN_VALUE, -2}, {0, 0, Integer.MAX_VALUE, -2}, {3, 0, 0, -11},
            {3, 0, 17, -11}, {3, 1, 0, -2}, {3, 0, 9, -2}, {1, 0, 0, -2}, {2, 0, 0, -2}, {2, 0, 10, -2}, {0, 0, 0, -1}};
        for (int[] r : rows) {
            check.due("tells(" + r[0] + ", " + r[1] + ", " + r[2] + ")", x.tells(r[0], r[1], r[2]), r[3]);
        }
        x.sheet(0, 2, 0);
        check.due("tells of 0 items", x.tells(0, 0, 0), -2);
        x.sheet(0, -1, 0);
        check.due("tells of a sheet gone", x.tells(0, 0, 0), -11);
    }

    private static void row(RememberedAsSunny x, int sheet, int one, int... want) {
        for (int what = 0; what < 9; what++) {
            check.due("tells(" + sheet + ", " + one + ", " + what + ")", x.tells(sheet, one, what), want[what]);
        }
    }

    private static void tellsOfAGuest() {
        RememberedAsSunny x = new RememberedAsSunny();
        Check.weathers(x, 3, 5, 9, 0, 0, 2, 7, 1);
        x.person(0, 7);
        x.person(1, 2);
        x.person(3, 0);
        Check.write(x, 1, 2, 3, 5, 9, 0, 0, 2, 7, 1);
        row(x, 1, 0, -1, 0b100011, 1023, 100, 0, 1, 0, 1, 0b111);
        // an aunt of 7 is cross for 7 years yet, so she isn't among the kinds of the guest
        x.set(0, 0, 6);
        check.due("KINDS, 6 years", x.tells(1, 0, 1), 0b100011);
        x.set(0, 0, 7);
        check.due("KINDS, 7 years", x.tells(1, 0, 1), 0b101011);
        for (int hour = 0; hour < 8; hour++) {
            x.set(0, 0, 0);
            check.due("WEATHERS", x.tells(1, 0, 10 + hour), 1 << x.told(hour, 3) + 9);
            x.cell(1, hour, -7);
            check.due("the first otherwise", x.tells(1, 0, 0), hour);
            check.due("WEATHERS", x.tells(1, 0, 10 + hour), 1 << 2);
            check.due("WEATHERS of another", x.tells(1, 0, 10 + (hour + 1) % 8), 0);
            check.due("KINDS", x.tells(1, 0, 1), 0);
            check.due("PEOPLE", x.tells(1, 0, 8), 0);
            check.due("YEARS", x.tells(1, 0, 3), 0);
            check.due("the least YEARS", x.tells(1, 0, 4), -1);
            check.due("MENDED sets", x.tells(1, 0, 5), 0);
            check.due("the least", x.tells(1, 0, 6), -1);
            x.cell(1, hour, x.told(hour, 3));
        }
        x.cell(1, 1, 14);
        x.cell(1, 6, 16);
        check.due("MENDED sets", x.tells(1, 0, 5), 1);
        check.due("the least", x.tells(1, 0, 6), 66);
        check.due("WEATHERS of two others", x.tells(1, 0, 11), 0);
        x.set(4, 1, 1);
        check.due("the first otherwise", x.tells(1, 0, 0), 6);
        x.set(4, 6, 1);
        check.due("the first otherwise", x.tells(1, 0, 0), -1);
        check.due("WEATHERS", x.tells(1, 0, 11), 1 << 14);
    }

    private static void tellsOfAnAunt() {
        RememberedAsSunny x = new RememberedAsSunny();
        x.person(3, 3);
        x.person(5, 0);
        Check.write(x, 0, 1, -5, -5, -5, -5, -5, -5, -5, -5);
        row(x, 0, 0, -1, 0b001000, 0b1111111110, 3, 0, 1, 0, 1, 1);
        Check.write(x, 0, 1, 0, 0, 0, 0, 0, 0, 0, 0);
        row(x, 0, 0, 0, 0b100011 | 4, 1, 97, 3, 0, -1, 0, 2);
        check.due("WEATHERS", x.tells(0, 0, 10), 0);
        x.set(0, 0, 3);
        check.due("WEATHERS", x.tells(0, 0, 10), 1023);
        check.due("NUMBERS", x.tells(0, 0, 2), 0b1111);
        check.due("YEARS are as they were", x.told(0, 0), 3);
        check.due("NUMBER is as it was", x.told(0, 5), 3);
        check.due("KIND is as it was", x.told(0, 7), 3);
        check.due("WEATHER is as it was", x.told(0, 3), 0);
    }

    private static void tellsOfABoy() {
        RememberedAsSunny x = new RememberedAsSunny();
        Check.weathers(x, 0, 4, 0, 0, 0, 0, 0, 5);
        x.person(2, 1);
        x.person(4, 1);
        Check.write(x, 2, 0, 0, 8, 0, 0, 0, 0, 0, 0);
        row(x, 2, 0, -1, 0b000100, 0b1000000010, 100, 0, 128, 0, 1, 1);
        row(x, 2, 1, 7, 0b000100, 0, 0, -1, 0, -1, 0, 1);
        check.due("WEATHERS", x.tells(2, 0, 10), 524287);
        check.due("WEATHERS", x.tells(2, 0, 11), 1 << 13);
        x.set(4, 1, 1);
        check.due("MENDED", x.tells(2, 0, 0), 1);
        check.due("MENDED sets", x.tells(2, 0, 5), 128);
        check.due("WEATHERS", x.tells(2, 0, 11), 1 << 4);
        x.cell(2, 1, 26);
        check.due("MENDED sets", x.tells(2, 0, 5), 128);
        check.due("the least", x.tells(2, 0, 6), 2);
    }

    private static void tellsOfTexts() {
        RememberedAsSunny x = new RememberedAsSunny();
        x.person(0, 0);
        Check.write(x, 0, 0, 0, 0, 0, 0, 0, 0, 0, 0);
        Check.text(x, "thinks hour;mends 0;claims 0;");
        Check.text(x, "thinks weather*2;mends 0;claims 0;");
        Check.text(x, "thinks years<50;mends 0;claims 0;");
        Check.text(x, "thinks number;mends 0;claims 0;");
        check.due("TEXTS", x.tells(0, 0, 7), 0b10101);
        x.force(3);
        check.due("TEXTS, whatever THE RULE", x.tells(0, 0, 7), 0b10101);
        check.due("YEARS", x.tells(0, 0, 3), 50);
        check.due("the least YEARS", x.tells(0, 0, 4), 50);
        check.due("THE RULE stays", x.count(5), 3);
        x.force(4);
        check.due("NUMBERS", x.tells(0, 0, 2), 1);
        x.force(1);
        check.due("otherwise", x.tells(0, 0, 0), 1);
        x.force(2);
        check.due("WEATHERS", x.tells(0, 0, 10), 512);
        check.due("MENDED sets", x.tells(0, 0, 5), 256);
        check.due("the least", x.tells(0, 0, 6), 0);
    }

    /** The weather of an hour is the last one of the hour behind it. */
    private static void tellsOfLastWeather() {
        RememberedAsSunny x = new RememberedAsSunny();
        x.person(0, 0);
        Check.thinking(x, "last<3");
        Check.weathers(x, 0, 0, 0, 0, 0, 0, 0, 9);
        Check.write(x, 0, 0, 1, 1, 1, 1, 1, 1, 1, 1);
        check.due("WEATHERS of HOUR 0", x.tells(0, 0, 10), 0b111111111111);
        check.due("WEATHERS of HOUR 7", x.tells(0, 0, 17), 524287);
        x.cell(0, 4, 0);
        check.due("WEATHERS of HOUR 3", x.tells(0, 0, 13), 524287 & ~0b111111111111);
        check.due("WEATHERS of HOUR 4", x.tells(0, 0, 14), 0);
    }

    private static void tellsOfEachSort() {
        RememberedAsSunny x = new RememberedAsSunny();
        x.person(0, 0);
        Check.thinking(x, "0-50-hour");
        for (int sort = 0; sort < 3; sort++) {
            Check.write(x, 3, sort, -50, -51, -52, -53, -54, -55, -56, -57);
            check.due("sort " + sort, x.tells(3, 0, 0), -1);
            Check.write(x, 3, sort, 206, 205, 204, 203, 202, 201, 200, 199);
            check.due("sort " + sort + ", lowest 8 bits", x.tells(3, 0, 0), sort == 0 ? -1 : 0);
            Check.write(x, 3, sort, 65486, -51, -52, -53, -54, -55, -56, -57);
            check.due("sort " + sort + ", lowest 16 bits", x.tells(3, 0, 0), sort == 2 ? 0 : -1);
        }
    }

    private static void film() {
        RememberedAsSunny x = new RememberedAsSunny();
        Check.weathers(x, 3, -5, 9, 0, -9, 2, 7, -1);
        int[] bad = {-1, 4, Integer.MIN_VALUE, Integer.MAX_VALUE};
        check.due("film(0, 0) of nobody", x.film(0, 0), -1000000);
        x.person(0, 0);
        for (int b : bad) {
            check.due("film(" + b + ", 0)", x.film(b, 0), -1000000);
            check.due("film(0, " + b + ")", x.film(0, b), -1000000);
        }
        check.due("no sheet by it", x.tells(0, 0, 0), -11);
        x.sheet(1, 2, 30);
        check.due("film(1, 0)", x.film(1, 0), 6);
        check.due("just so", x.tells(1, 0, 0), -1);
        check.due("8 items", x.cell(1, 8, 0), -12);
        x.sheet(2, 0, 8);
        check.due("of bytes", x.copy(1, 0, 2, 0, 8), 8);
        check.due("just so", x.tells(2, 0, 0), -1);
        x.set(3, 4, 0);
        check.due("it stays", x.tells(1, 0, 0), 4);
        x.force(Check.text(x, "thinks 99-hour*99;mends 0;claims 0;"));
        check.due("film(3, 0)", x.film(3, 0), 99 + 0 - 99 * 6);
        check.due("just so", x.tells(3, 0, 0), -1);
    }

    /** A guest is hazy by the sum of what is drawn, a boy by twice one hour. */
    private static void drawn() {
        int[] seeds = {1, 0, -1, 12345, Integer.MIN_VALUE, Integer.MAX_VALUE};
        for (int seed : seeds) {
            long z = seed & 0xFFFFFFFFL;
            int[] weather = new int[8];
            int sum = 0;
            for (int hour = 0; hour < 8; hour++) {
                z = (z * 1103515245L + 12345L) % 4294967296L;
                weather[hour] = (int) (z / 512 % 19) - 9;
                sum += weather[hour];
            }
            RememberedAsSunny x = new RememberedAsSunny();
            check.due("drawn of nobody", x.drawn(seed), 0);
            x.person(0, 0);
            x.person(2, 3);
            x.person(2, 7);
            x.set(1, 0, sum);
            int boys = (2 * weather[3] >= sum ? 1 : 0) + (2 * weather[7] >= sum ? 1 : 0);
            check.due("drawn(" + seed + ")", x.drawn(seed), 1 + boys);
            x.set(1, 0, sum + 1);
            boys = (2 * weather[3] > sum ? 1 : 0) + (2 * weather[7] > sum ? 1 : 0);
            check.due("drawn(" + seed + ")", x.drawn(seed), boys);
            x.set(4, 0, 1);
            x.set(1, 0, sum + 9);
            boys = (2 * weather[3] >= sum + 9 ? 1 : 0) + (2 * weather[7] >= sum + 9 ? 1 : 0);
            check.due("drawn(" + seed + "), mended", x.drawn(seed), 1 + boys);
            check.due("in thought", x.told(0, 3), 0);
        }
        // Of seed 1 the first z is 1103527590, of which 2155327 is 19 times 113438 and 5.
        RememberedAsSunny x = new RememberedAsSunny();
        x.person(2, 0);
        x.set(1, 0, 2 * (2155327 % 19 - 9));
        check.due("drawn(1)", x.drawn(1), 1);
        x.set(1, 0, 2 * (2155327 % 19 - 9) + 1);
        check.due("drawn(1)", x.drawn(1), 0);
    }

    private static void chance() {
        RememberedAsSunny x = new RememberedAsSunny();
        long no = RememberedAsSunny.NO;
        int[][] bad = {{0, 0, 0}, {21, 0, 0}, {-1, 0, 0}, {1, -1, 0}, {1, 7, 0}, {1, 0, -1}, {1, 0, 2},
            {Integer.MIN_VALUE, 0, 0}, {Integer.MAX_VALUE, 0, 0}, {1, Integer.MAX_VALUE, 0}, {1, 0, Integer.MIN_VALUE}};
        for (int[] b : bad) {
            check.due("chance(0, " + b[0] + ", " + b[1] + ", " + b[2] + ")", x.chance(0, b[0], b[1], b[2]), no);
        }
        for (int m = 1; m <= 20; m++) {
            check.due("sure, above", x.chance(5, m, 0, 0), 1);
            check.due("sure, below", x.chance(5, m, 0, 1), 1);
            check.due("never, above", x.chance(5, m, 1, 0), 0);
            check.due("never, below", x.chance(5, m, 1, 1), 1);
        }
        x.person(0, 0);
        x.set(1, 0, -999);
        for (int one = 1; one < 6; one++) {
            check.due("who came since the last call", x.chance(0, 3, one, 0), 1);
            check.due("not so many", x.chance(0, 3, one + 1, 0), 0);
            x.person(0, 0);
        }
        check.due("all six, above", x.chance(0, 20, 6, 0), 1);
        check.due("all six, below", x.chance(0, 20, 6, 1), 1);
        x.set(1, 0, 999);
        check.due("none, above", x.chance(0, 20, 6, 0), 0);
        x = new RememberedAsSunny();
        x.person(0, 0);
        x.person(1, 0);
        x.person(5, 0);
        x.set(1, 0, 18);
        int[] seeds = {0, 77, -9, Integer.MAX_VALUE - 3, Integer.MIN_VALUE};
        for (int seed : seeds) {
            for (int m = 1; m <= 20; m += m < 4 ? 1 : 8) {
                for (int k = 0; k <= 4; k++) {
                    int those = 0;
                    for (int i = 0; i < m; i++) {
                        those += x.drawn(seed + i) >= k ? 1 : 0;
                    }
                    long above = x.chance(seed, m, k, 0);
                    long below = x.chance(seed, m, k, 1);
                    check.due("the quotient of " + seed + " " + m + " " + k, above * m, those * below);
                    for (int d = 2; d <= 20; d++) {
                        check.that("lowest terms", above % d != 0 || below % d != 0);
                    }
                    check.that("below the line", below >= 1 && below <= m);
                }
            }
        }
    }

    private static void imageAndBack() {
        RememberedAsSunny x = new RememberedAsSunny();
        check.due("back()", x.back(), -3);
        Check.text(x, "thinks 1;mends 2;claims 3;");
        x.person(2, 4);
        x.person(5, 6);
        int[][] first = {{0, 0, 11}, {1, 0, 12}, {2, 0, 13}, {3, 0, 1}, {3, 7, -9}, {4, 2, 1}, {5, 0, 3}, {5, 1, 2}, {6, 0, 9}, {6, 1, 8}};
        int[][] second = {{0, 0, 99}, {1, 0, -7}, {2, 0, -5}, {3, 0, 4}, {3, 7, 4}, {4, 2, 0}, {5, 0, 9}, {5, 1, 9}, {6, 0, 0}, {6, 1, 0}};
        for (int[] f : first) {
            x.set(f[0], f[1], f[2]);
        }
        x.force(1);
        check.due("image()", x.image(), 2);
        for (int round = 0; round < 2; round++) {
            for (int[] s : second) {
                x.set(s[0], s[1], s[2]);
            }
            x.force(0);
            x.set(4, 5, 1);
            x.person(3, 1);
            check.due("text", Check.text(x, "thinks 2;mends 2;claims 3;"), 2 + round);
            x.sheet(0, 0, 3 + round);
            x.feed(32);
            check.due("count(0)", x.count(0), 3 + round);
            check.due("back()", x.back(), 2);
            for (int[] f : first) {
                check.due("told(" + f[1] + ", " + f[0] + ")", x.told(f[1], f[0]), f[2]);
            }
            check.due("KIND", x.told(0, 7), 2);
            check.due("KIND", x.told(1, 7), 5);
            check.due("count(0)", x.count(0), 2);
            check.due("count(1)", x.count(1), 1);
            check.due("THE RULE", x.count(5), 1);
            check.due("TEXTS stay", x.count(3), 3 + round);
            check.due("THE TAPE stays", x.count(4), 1);
            x.text();
            check.due("a SHEET stays", x.cell(0, 2 + round, 1), 1);
            check.due("one goes", x.told(2, 5), -1000000);
            check.due("one comes", x.person(1, 1), 2);
            check.due("PREMIUM of one who comes", x.told(2, 6), 5);
        }
        check.due("image(), of three", x.image(), 3);
        x.person(0, 0);
        check.due("back(), of three", x.back(), 3);
        check.due("back(), again", x.back(), 3);
        RememberedAsSunny y = new RememberedAsSunny();
        check.due("image() of nobody", y.image(), 0);
        y.person(0, 0);
        check.due("back() of nobody", y.back(), 0);
        check.due("nobody", y.haze(0), -2);
    }

    private static void counts() {
        RememberedAsSunny x = new RememberedAsSunny();
        int[] bad = {-1, 6, Integer.MIN_VALUE, Integer.MAX_VALUE};
        for (int what : bad) {
            check.due("count(" + what + ")", x.count(what), -2);
        }
        x.person(0, 0);
        x.set(4, 0, 1);
        x.set(4, 7, 1);
        x.right(3);
        x.set(0, 0, 41);
        x.year();
        Check.text(x, "thinks 1;mends 2;claims 3;");
        Check.text(x, "thinks 1;mends 2;claims 3;");
        x.force(2);
        Check.feed(x, "thinks");
        int[] want = {1, 3, 42, 3, 6, 2};
        for (int what = 0; what < 6; what++) {
            check.due("count(" + what + ")", x.count(what), want[what]);
        }
    }
}
