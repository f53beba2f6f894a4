/** Promises 8 to 11: years, putting right, runs, the society. */
public final class YearsTest {
    private static final Check check = new Check("YearsTest");
    private static final int REFUSED = -1000000;

    public static void main(String[] args) {
        yearOfTheRule();
        yearsEnd();
        purseIsBoundTwice();
        putsRight();
        rightIsBound();
        runs();
        runsPast99();
        runRefuses();
        hazyBehindYears();
        society();
        check.end();
    }

    /** A guest who remembers nothing, and so claims 20 more than the YEARS. */
    private static RememberedAsSunny claiming() {
        RememberedAsSunny x = new RememberedAsSunny();
        x.person(0, 0);
        x.set(1, 0, 1);
        return x;
    }

    private static void yearOfTheRule() {
        RememberedAsSunny x = claiming();
        check.due("year()", x.year(), 85);
        check.due("YEARS", x.told(0, 0), 1);
        check.due("year()", x.year(), 69);
        check.due("PURSE", x.told(0, 2), 69);
        x.set(1, 0, 0);
        check.due("year(), nobody claims", x.year(), 74);
        x.set(6, 0, 99);
        check.due("year(), of 99", x.year(), 173);
        check.due("YEARS", x.count(2), 4);
    }

    private static void yearsEnd() {
        RememberedAsSunny x = claiming();
        x.set(0, 0, 98);
        check.due("year() of 98", x.year(), 100 + 5 - 99);
        check.due("year() of 99", x.year(), REFUSED);
        check.due("PURSE", x.told(0, 2), 6);
        check.due("YEARS", x.told(0, 0), 99);
    }

    private static void purseIsBoundTwice() {
        RememberedAsSunny x = claiming();
        x.set(2, 0, 99999);
        check.due("year(), first full", x.year(), 99979);
        x.set(2, 0, -99999);
        check.due("year(), first more", x.year(), -99999);
        x.set(2, 0, -99999);
        x.set(6, 0, 99);
        check.due("year(), first more", x.year(), -99999 + 99 - 22);
        x.person(5, 9);
        x.set(2, 0, 99990);
        x.set(1, 0, 999);
        x.set(6, 0, 0);
        x.set(6, 1, 0);
        x.set(5, 0, 0);
        check.due("DUE", x.society(1), 23 - 9);
        check.due("year()", x.year(), 99976);
        RememberedAsSunny widow = new RememberedAsSunny();
        widow.person(5, 9);
        widow.set(1, 0, 999);
        widow.set(2, 0, 99993);
        check.due("year() of a widow who pays", widow.year(), 99999);
    }

    private static void putsRight() {
        RememberedAsSunny x = new RememberedAsSunny();
        x.person(0, 0);
        x.person(3, 4);
        Check.weathers(x, 3, -5);
        check.due("right(-1)", x.right(-1), -2);
        check.due("right(8)", x.right(8), -2);
        check.due("right(MAX)", x.right(Integer.MAX_VALUE), -2);
        check.due("right(1)", x.right(1), 15 + 7 + 4);
        check.due("PURSE", x.told(0, 2), 74);
        check.due("MENDED", x.told(1, 4), 1);
        check.due("thinks", x.told(0, 21), 4);
        check.due("right(1) again", x.right(1), -3);
        check.due("PURSE", x.told(0, 2), 74);
        check.due("right(0)", x.right(0), 7 + 3 + 4);
        check.due("count(1)", x.count(1), 2);
        check.due("YEARS", x.count(2), 0);
        x.force(Check.text(x, "thinks 0;mends mended*50+9;claims 0;"));
        check.due("COST ahead", x.told(2, 11), 9 + 4 + 4);
        check.due("right(2), told ahead", x.right(2), 17);
        check.due("PURSE", x.told(0, 2), 43);
        check.due("COST behind", x.told(2, 11), 59 + 29 + 4);
    }

    private static void rightIsBound() {
        RememberedAsSunny x = new RememberedAsSunny();
        check.due("right(0) of nobody", x.right(0), 0);
        x.person(0, 0);
        x.set(2, 0, -99995);
        check.due("right(1)", x.right(1), 10);
        check.due("PURSE", x.told(0, 2), -99999);
    }

    private static void runs() {
        RememberedAsSunny x = claiming();
        int purse = 100;
        int below = -1;
        for (int n = 0; n <= 40; n++) {
            check.due("run(" + n + ", 0)", x.run(n, 0), purse);
            check.due("run(" + n + ", 1)", x.run(n, 1), 0);
            check.due("run(" + n + ", 2)", x.run(n, 2), below);
            purse += 5 - (20 + n);
            if (purse < 0 && below < 0) {
                below = n;
            }
        }
        check.due("below 0", below, 5);
        check.due("only in thought", x.told(0, 2), 100);
        check.due("only in thought", x.told(0, 0), 0);
        x.set(2, 0, -1);
        check.due("run(0, 2) below 0 already", x.run(0, 2), -1);
        check.due("run(1, 2)", x.run(1, 2), 0);
        x.set(6, 0, 99);
        check.due("run(3, 2) above again", x.run(3, 2), -1);
        x.set(6, 0, 20);
        x.set(2, 0, 0);
        check.due("run(1, 2) of just 0", x.run(1, 2), -1);
        check.due("run(2, 2)", x.run(2, 2), 1);
    }

    private static void runsPast99() {
        RememberedAsSunny x = claiming();
        x.set(0, 0, 99);
        check.due("run(1, 0)", x.run(1, 0), 100 + 5 - 99);
        Check.thinking(x, "99<years");
        check.due("run(0, 1)", x.run(0, 1), 0);
        check.due("run(1, 1)", x.run(1, 1), 1);
        check.due("YEARS", x.told(0, 0), 99);
        x.force(Check.text(x, "thinks 0;mends 0;claims years-99;"));
        check.due("run(3, 0)", x.run(3, 0), 100 + 15 - 0 - 1 - 2);
        check.due("run(40, 0)", x.run(40, 0), 100 + 200 - 780);
    }

    private static void runRefuses() {
        RememberedAsSunny x = claiming();
        int[][] bad = {{-1, 0}, {41, 0}, {0, -1}, {0, 3}, {Integer.MIN_VALUE, 0}, {Integer.MAX_VALUE, 2}, {1, Integer.MIN_VALUE}};
        for (int[] b : bad) {
            check.due("run(" + b[0] + ", " + b[1] + ")", x.run(b[0], b[1]), REFUSED);
        }
    }

    /** An aunt of 3 is hazy, when she forgets to be cross: behind 3 years. */
    private static void hazyBehindYears() {
        RememberedAsSunny x = new RememberedAsSunny();
        x.person(3, 3);
        check.due("run(0, 1)", x.run(0, 1), 0);
        check.due("run(2, 1)", x.run(2, 1), 0);
        check.due("run(3, 1)", x.run(3, 1), 1);
        check.due("run(4, 0)", x.run(4, 0), 100 + 20 - 40 - 42 - 44);
    }

    private static void society() {
        RememberedAsSunny x = new RememberedAsSunny();
        int[] ofNobody = {0, 0, 0, 255, 0};
        for (int what = 0; what < 5; what++) {
            check.due("society(" + what + ") of nobody", x.society(what), ofNobody[what]);
        }
        int[] bad = {-1, 5, Integer.MIN_VALUE, Integer.MAX_VALUE};
        for (int what : bad) {
            check.due("society(" + what + ")", x.society(what), REFUSED);
        }
        Check.weathers(x, 0, 1, -1, 0, 2, 0, -3, 0);
        x.person(1, 0);
        check.due("NEVER of a mother", x.society(3), 0b11101101);
        x.person(0, 0);
        check.due("NEVER with a guest", x.society(3), 0b10101001);
        x.person(4, 1);
        check.due("NEVER with a baby", x.society(3), 0b00101001);
        x.set(4, 0, 1);
        check.due("NEVER, an hour mended", x.society(3), 0b00101000);
        x.set(6, 1, 70);
        check.due("PREMIUMS", x.society(2), 80);
        check.due("image()", x.image(), 3);
        x.person(0, 0);
        x.person(0, 0);
        x.person(0, 0);
        check.due("PREMIUMS of six", x.society(2), 95);
        x.back();
        check.due("PREMIUMS of those who came are gone", x.society(2), 80);
        // memories: mother 12, guest 8, baby 2 + 9
        x.set(1, 0, 9);
        check.due("HAZY", x.society(0), 2);
        check.due("DUE", x.society(1), 20);
        x.set(1, 0, 12);
        check.due("HAZY", x.society(0), 1);
        x.set(1, 0, 13);
        check.due("HAZY", x.society(0), 0);
        check.due("DUE", x.society(1), 40);
        x.person(5, 6);
        check.due("DUE, the widow hazy", x.society(1), 40);
        x.set(1, 0, 17);
        check.due("DUE less a widow's", x.society(1), 34);
        // COST of the hours 1 .. 7: guest 9 11 10 8 10 13 10, mother 4 5 5 4 5 6 5, baby 1 each, widow 0
        check.due("COST of the rest", x.society(4), 71 + 34 + 7);
        x.set(4, 0, 0);
        check.due("COST of all", x.society(4), 71 + 34 + 7 + 10 + 5 + 1);
        x.set(4, 7, 1);
        check.due("COST of all but the last", x.society(4), 71 + 34 + 7 + 10 + 5 + 1 - 10 - 5 - 1);
        for (int hour = 0; hour < 8; hour++) {
            x.set(4, hour, 1);
        }
        check.due("COST of no rest", x.society(4), 0);
    }
}
