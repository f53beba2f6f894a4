/** Promises 12 to 17: what would be best. */
public final class BestTest {
    private static final Check check = new Check("BestTest");
    private static final int REFUSED = -1000000;

    public static void main(String[] args) {
        refusals();
        ofNobody();
        cheapestOfLikeOnes();
        cheapestLeavesMended();
        costsAsTheyAre();
        most();
        mostOfLikeOnes();
        haze();
        hazePast99();
        premium();
        premiumIsAtMost99();
        best();
        agree();
        check.end();
    }

    private static void refusals() {
        RememberedAsSunny x = new RememberedAsSunny();
        x.person(0, 0);
        x.person(0, 0);
        int min = Integer.MIN_VALUE, max = Integer.MAX_VALUE;
        int[][] cheapest = {{-1, 0}, {7, 0}, {0, -1}, {0, 2}, {min, 0}, {max, 1}, {0, max}, {7, 2}};
        for (int[] b : cheapest) {
            check.due("cheapest(" + b[0] + ", " + b[1] + ")", x.cheapest(b[0], b[1]), -2);
        }
        int[][] most = {{-1, 0}, {1000, 0}, {0, -1}, {0, 3}, {min, 0}, {max, 1}, {0, min}};
        for (int[] b : most) {
            check.due("most(" + b[0] + ", " + b[1] + ")", x.most(b[0], b[1]), -2);
        }
        int[] nobody = {-1, 2, 6, min, max};
        for (int one : nobody) {
            check.due("haze(" + one + ")", x.haze(one), -2);
            check.due("best(" + one + ", 0)", x.best(one, 0), REFUSED);
            check.due("agree(0, " + one + ")", x.agree(0, one), -2);
            check.due("agree(" + one + ", 1)", x.agree(one, 1), -2);
        }
        check.due("best(0, -1)", x.best(0, -1), REFUSED);
        check.due("best(0, 3)", x.best(0, 3), REFUSED);
        check.due("agree(1, 1)", x.agree(1, 1), -2);
        check.due("agree(0, 1)", x.agree(0, 1), 255);
    }

    private static void ofNobody() {
        RememberedAsSunny x = new RememberedAsSunny();
        check.due("cheapest(0, 0)", x.cheapest(0, 0), 0);
        check.due("cheapest(0, 1)", x.cheapest(0, 1), 0);
        check.due("cheapest(1, 0)", x.cheapest(1, 0), -1);
        check.due("cheapest(1, 1)", x.cheapest(1, 1), -1);
        for (int what = 0; what < 3; what++) {
            check.due("most(999, " + what + ")", x.most(999, what), 0);
        }
        check.due("premium()", x.premium(), 0);
        x.set(2, 0, -1);
        check.due("premium(), the purse below 0", x.premium(), -1);
    }

    private static void cheapestOfLikeOnes() {
        RememberedAsSunny x = new RememberedAsSunny();
        x.person(0, 0);
        x.set(1, 0, 9);
        check.due("one of like hours", x.cheapest(1, 0), 1);
        check.due("its cost", x.cheapest(1, 1), 10);
        x.set(3, 5, 2);
        check.due("a cheaper hour", x.cheapest(1, 0), 32);
        check.due("its cost", x.cheapest(1, 1), 8);
        x.set(3, 2, 2);
        x.set(1, 0, 13);
        check.due("the first of both", x.cheapest(1, 0), 4);
        x.set(1, 0, 14);
        check.due("two", x.cheapest(1, 0), 4 + 32);
        check.due("two's cost", x.cheapest(1, 1), 16);
        x.set(1, 0, 76);
        check.due("all", x.cheapest(1, 0), 255);
        check.due("all's cost", x.cheapest(1, 1), 76);
        x.set(1, 0, 77);
        check.due("not even all", x.cheapest(1, 0), -1);
        check.due("not even all", x.cheapest(1, 1), -1);
        check.due("for nobody", x.cheapest(0, 0), 0);
        x.set(1, 0, 0);
        check.due("hazy already", x.cheapest(1, 0), 0);
        check.due("hazy already", x.cheapest(1, 1), 0);
        check.due("in thought", x.count(1), 0);
        x.person(4, 1);
        x.set(1, 0, 30);
        check.due("two of the baby's", x.cheapest(1, 0), 1 + 4 + 32);
        check.due("the baby alone", x.cheapest(2, 0), -1);
        x.set(1, 0, 27);
        check.due("both", x.cheapest(2, 0), 2 + 4 + 32);
        check.due("both's cost", x.cheapest(2, 1), 11 + 9 + 9);
        check.due("all six", x.cheapest(6, 0), -1);
    }

    private static void cheapestLeavesMended() {
        RememberedAsSunny x = new RememberedAsSunny();
        x.person(0, 0);
        x.set(3, 3, 9);
        x.set(4, 3, 1);
        x.set(1, 0, 27);
        check.due("but the mended", x.cheapest(1, 0), 1);
        check.due("but the mended", x.most(999, 0), 1);
        x.set(1, 0, 18 + 63);
        check.due("all others", x.cheapest(1, 0), 255 - 8);
        check.due("all others' cost", x.cheapest(1, 1), 70);
        x.set(1, 0, 18 + 64);
        check.due("not even all", x.cheapest(1, 0), -1);
        for (int hour = 0; hour < 8; hour++) {
            x.set(4, hour, 1);
        }
        x.set(1, 0, 81);
        check.due("nothing to mend", x.cheapest(1, 0), 0);
        x.set(1, 0, 200);
        check.due("nothing to mend", x.cheapest(1, 0), -1);
        check.due("nothing to mend", x.most(999, 0), 0);
        check.due("nobody by it", x.most(999, 1), 0);
    }

    private static void costsAsTheyAre() {
        RememberedAsSunny x = new RememberedAsSunny();
        x.person(0, 0);
        x.force(Check.text(x, "thinks mended;mends 5+mended*20+hour;claims 0;"));
        x.set(1, 0, 2);
        check.due("set", x.cheapest(1, 0), 3);
        check.due("cost", x.cheapest(1, 1), 11);
        check.due("most", x.most(11, 2), 11);
        check.due("most", x.most(10, 2), 0);
        x.force(Check.text(x, "thinks 0-mended;mends 0;claims 0;"));
        x.set(1, 0, 0);
        check.due("mending makes it worse", x.most(999, 0), 0);
        check.due("for nothing", x.cheapest(1, 0), 0);
    }

    private static void most() {
        RememberedAsSunny x = new RememberedAsSunny();
        Check.weathers(x, 9, 0, -9, 0, 0, 0, 0, 0);
        x.person(0, 0);
        x.person(1, 0);
        x.person(2, 2);
        // memories 0, 9, -18; mending the hour 2: 9, 9, 0; it costs 19 + 9 + 1
        x.set(1, 0, 9);
        check.due("most(0, 0)", x.most(0, 0), 0);
        check.due("most(0, 1)", x.most(0, 1), 1);
        check.due("most(10, 1)", x.most(10, 1), 2);
        check.due("most(10, 0)", x.most(10, 0), 1);
        check.due("most(1, 1)", x.most(1, 1), 1);
        check.due("most(10, 2)", x.most(10, 2), 1 + 0 + 1);
        x.set(1, 0, 0);
        check.due("most(28, 1)", x.most(28, 1), 2);
        check.due("most(29, 1)", x.most(29, 1), 3);
        check.due("most(29, 0)", x.most(29, 0), 4);
        check.due("most(29, 2)", x.most(29, 2), 29);
        check.due("most(999, 0)", x.most(999, 0), 4);
        check.due("in thought", x.count(1), 0);
        check.due("in thought", x.told(0, 2), 100);
    }

    private static void mostOfLikeOnes() {
        RememberedAsSunny x = new RememberedAsSunny();
        x.person(0, 0);
        x.set(1, 0, 9);
        check.due("the least bits", x.most(10, 0), 1);
        check.due("the least bits", x.most(999, 0), 1);
        check.due("not enough", x.most(9, 0), 0);
        check.due("not enough", x.most(9, 1), 0);
        x.set(3, 6, 1);
        check.due("the cheapest", x.most(10, 0), 64);
        check.due("its cost", x.most(10, 2), 9);
        check.due("the one hazy", x.most(10, 1), 1);
    }

    private static void haze() {
        RememberedAsSunny x = new RememberedAsSunny();
        x.person(3, 6);
        check.due("haze(0)", x.haze(0), 6);
        x.set(0, 0, 4);
        check.due("haze(0)", x.haze(0), 2);
        x.set(0, 0, 6);
        check.due("haze(0)", x.haze(0), 0);
        x.set(1, 0, 1);
        check.due("haze(0)", x.haze(0), -1);
        x.set(0, 0, 0);
        Check.thinking(x, "years-35");
        x.set(5, 0, 0);
        x.set(1, 0, 8 * 5);
        check.due("haze(0), behind 40", x.haze(0), 40);
        x.set(1, 0, 8 * 5 + 1);
        check.due("haze(0), behind 41", x.haze(0), -1);
        check.due("YEARS", x.told(0, 0), 0);
        Check.thinking(x, "years=7");
        x.set(1, 0, 8);
        check.due("haze(0), for one year alone", x.haze(0), 7);
    }

    private static void hazePast99() {
        RememberedAsSunny x = new RememberedAsSunny();
        x.person(0, 0);
        x.set(0, 0, 95);
        Check.thinking(x, "109<years");
        x.set(1, 0, 8);
        check.due("haze(0)", x.haze(0), 15);
        check.due("YEARS", x.told(0, 0), 95);
    }

    private static void premium() {
        RememberedAsSunny x = new RememberedAsSunny();
        x.person(0, 0);
        x.person(2, 0);
        x.set(1, 0, 1);
        x.set(6, 0, 99);
        // 20 + 21 + .. + 29 is 245: 145 more than the purse, of two in ten years 7.25 each
        check.due("premium()", x.premium(), 8);
        check.due("PREMIUM", x.told(0, 6), 99);
        check.due("PURSE", x.told(0, 2), 100);
        x.set(2, 0, 245);
        check.due("premium() of enough", x.premium(), 0);
        x.set(2, 0, 244);
        check.due("premium() of 1 too little", x.premium(), 1);
        x.set(2, 0, 0);
        // the last years ask most: 245 / 20
        check.due("premium() of nothing", x.premium(), 13);
        x.set(2, 0, -40);
        check.due("premium() of the first year", x.premium(), 30);
        x.set(0, 0, 95);
        x.set(2, 0, 0);
        // 20 and more than 94 is 99 at most
        check.due("premium() past 99", x.premium(), 50);
        check.due("YEARS", x.told(0, 0), 95);
        x.force(Check.text(x, "thinks 0;mends 0;claims (years-95)*(9-years+95)*4;"));
        // 0 32 56 72 80 80 72 56 32 0: 448 behind 8 years of two, more for each year than 480 behind 10
        check.due("premium() of the middle years", x.premium(), 28);
    }

    private static void premiumIsAtMost99() {
        RememberedAsSunny x = new RememberedAsSunny();
        x.person(0, 0);
        x.set(1, 0, 1);
        x.force(Check.text(x, "thinks 0;mends 0;claims 99;"));
        x.set(2, 0, 0);
        check.due("premium()", x.premium(), 99);
        x.set(2, 0, -1);
        check.due("premium()", x.premium(), -1);
        x.set(2, 0, 990);
        check.due("premium()", x.premium(), 0);
        // The purse is bound before it pays.
        x.set(2, 0, 99999);
        check.due("premium()", x.premium(), 0);
    }

    private static void best() {
        RememberedAsSunny x = new RememberedAsSunny();
        Check.weathers(x, 3, -5, 9, 0, -9, 9, 7, -1);
        x.person(0, 0);
        x.person(5, 0);
        x.person(3, 9);
        check.due("best(0, 0)", x.best(0, 0), 2);
        check.due("best(0, 1)", x.best(0, 1), 9);
        check.due("best(0, 2)", x.best(0, 2), 0);
        check.due("best(1, 0)", x.best(1, 0), 2);
        check.due("best(1, 1)", x.best(1, 1), 9);
        check.due("best(1, 2)", x.best(1, 2), 2 + 16 + 128);
        x.set(4, 5, 1);
        check.due("best(0, 0)", x.best(0, 0), 5);
        check.due("best(0, 1)", x.best(0, 1), 18);
        check.due("best(2, 1)", x.best(2, 1), 13);
        for (int hour = 0; hour < 8; hour++) {
            x.set(3, hour, -2);
            x.set(4, hour, 0);
        }
        check.due("best(0, 0), of like ones", x.best(0, 0), 0);
        check.due("best(0, 1), below 0", x.best(0, 1), -2);
        check.due("best(0, 2)", x.best(0, 2), 0);
        check.due("best(2, 1)", x.best(2, 1), -5);
        x.set(3, 7, -1);
        check.due("best(0, 0), the last", x.best(0, 0), 7);
        for (int hour = 0; hour < 8; hour++) {
            RememberedAsSunny y = new RememberedAsSunny();
            y.person(0, 0);
            y.set(3, hour, 1);
            check.due("best(0, 0)", y.best(0, 0), hour);
            check.due("best(0, 1)", y.best(0, 1), 1);
            check.due("best(0, 2), none else", y.best(0, 2), 1 << hour);
            y.person(2, hour);
            check.due("best(0, 2), a boy too", y.best(0, 2), 0);
            check.due("best(1, 0)", y.best(1, 0), hour);
            y.set(3, (hour + 1) % 8, 1);
            check.due("best(0, 2), but the boy's", y.best(0, 2), 1 << (hour + 1) % 8);
            check.due("best(1, 2)", y.best(1, 2), 0);
        }
    }

    private static void agree() {
        RememberedAsSunny x = new RememberedAsSunny();
        Check.weathers(x, 3, -5, 9, 0, -9, 9, 7, -1);
        x.person(0, 0);
        x.person(1, 0);
        x.person(2, 2);
        check.due("agree(0, 1)", x.agree(0, 1), 0b01101101);
        check.due("agree(1, 0)", x.agree(1, 0), 0b01101101);
        check.due("agree(0, 2)", x.agree(0, 2), 0b00001000);
        check.due("agree(1, 2)", x.agree(1, 2), 0b10011010);
    }
}
