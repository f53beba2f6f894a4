import java.io.IOException;

/** The edges of promises 8 to 11: years, putting right, runs, the society. */
public final class EdgesYearsTest {
    private static Edges edges;

    public static void main(String[] args) throws IOException {
        edges = new Edges("EdgesYearsTest");
        year();
        yearIsBound();
        right();
        rightIsBound();
        run();
        runBelow0();
        runInThought();
        society();
        never();
        costOfTheRest();
        edges.end(8, 11);
    }

    private static void year() {
        edges.promise(8, "-1000000: YEARS are 99.", """
            set 0 0 98 = 0, year = 100, told 0 0 = 99, !year = no, told 0 0 = 99, told 0 2 = 100, person 0 0 = 0, !year = no
            set 0 0 97 = 99, year = 105, year = 110, !year = no, count 2 = 99""");
        edges.promise(8, "A YEAR, truly: PURSE then.", "year = 100, count 2 = 1, told 0 2 = 100, year = 100, count 2 = 2");
        edges.promise(8, "then less by DUE, told ahead", """
            set 1 0 1 = 0, person 0 0 = 0, set 6 0 0 = 5, year = 80, told 0 0 = 1, year = 59, set 0 0 98 = 2, year = -40, told 0 2 = -40""");
        edges.promise(8, "told ahead", """
            person 3 1 = 0, set 6 0 0 = 5, told 0 9 = 0, year = 60, told 0 9 = 1, year = 60""");
        edges.promise(8, "DUE: CLAIMS of all who aren't HAZY, together.", """
            weathers 6
            set 1 0 6 = 0, 6* person 0 0 = 5, year = 130, set 1 0 7 = 6, set 0 0 0 = 1, year = 40""");
    }

    private static void yearIsBound() {
        edges.promise(8, "PURSE is more by PREMIUMS of all, then less by DUE, told ahead (each within the bound)", """
            set 2 0 99994 = 100, person 0 0 = 0, year = 99999, year = 99999, set 2 0 99993 = 99999, year = 99998
            set 1 0 1 = 0, set 0 0 0 = 3, set 2 0 99999 = 99998, year = 99979""");
        edges.promise(8, "(each within the bound)", """
            set 1 0 1 = 0, person 0 0 = 0, set 6 0 0 = 5, set 2 0 -99979 = 100, year = -99999, set 0 0 0 = 1, set 2 0 -99978 = -99999
            year = -99998, set 0 0 0 = 1, set 2 0 -99980 = -99998, year = -99999, year = -99999
            set 6 0 99 = 0, set 0 0 0 = 2, year = -99920""");
        edges.promise(8, "WIDOW: 0 less NUMBER", """
            person 5 9 = 0, set 6 0 0 = 5, set 1 0 999 = 0, society 1 = -9, set 2 0 99990 = 100, year = 99999, year = 99999
            set 2 0 99989 = 99999, year = 99998""");
        edges.promise(8, "(each within the bound)", """
            person 0 0 = 0, person 5 9 = 1, set 1 0 999 = 0, set 6 0 99 = 5, set 6 1 0 = 5, society 1 = 11, set 2 0 99950 = 100
            year = 99988""");
    }

    private static void right() {
        edges.promise(9, "BAD; STATE: it is MENDED.", """
            !right -1 = -2, !right 8 = -2, !right MIN = -2, !right MAX = -2, right 0 = 0, right 7 = 0, count 1 = 2, !right 0 = -3
            !right 7 = -3, told 0 4 = 1, told 7 4 = 1, told 1 4 = 0, told 6 4 = 0, set 4 3 1 = 0, person 0 0 = 0, !right 3 = -3
            told 0 2 = 100, set 4 3 0 = 1, right 3 = 10, told 0 2 = 90, !right 3 = -3, told 0 2 = 90""");
        edges.promise(9, "PUT RIGHT (an HOUR), truly: PURSE is less by its COST, told ahead; it is MENDED.", """
            rule "thinks 0;mends mended*50+9;claims 0;"
            person 0 0 = 0, right 4 = 9, told 0 2 = 91, told 4 11 = 59, told 4 4 = 1, count 2 = 0""");
        edges.promise(9, "COST of an HOUR: MENDING of all PEOPLE, together (nobody: 0).", """
            right 5 = 0, told 0 2 = 100, count 1 = 1, person 5 0 = 0, right 6 = 0, told 0 2 = 100, count 1 = 2""");
    }

    private static void rightIsBound() {
        edges.promise(9, "PURSE: what the society has (-99999 .. 99999; 100 at first)", """
            person 0 0 = 0, set 2 0 -99989 = 100, right 0 = 10, told 0 2 = -99999, set 2 0 -99990 = -99999, right 1 = 10
            told 0 2 = -99999, right 2 = 10, told 0 2 = -99999, set 2 0 -99988 = -99999, right 3 = 10, told 0 2 = -99998
            set 2 0 5 = -99998, right 4 = 10, told 0 2 = -5""");
    }

    private static void run() {
        edges.promise(10, "n YEARS (0 .. 40), in thought (there YEARS may pass 99)", """
            !run -1 0 = no, !run 41 0 = no, !run MIN 0 = no, !run MAX 0 = no, run 0 0 = 100, run 40 0 = 100, person 0 0 = 0
            run 0 0 = 100, run 1 0 = 105, run 39 0 = 295, run 40 0 = 300, run 0 1 = 1, run 40 1 = 1, run 0 2 = -1, run 40 2 = -1
            told 0 2 = 100, told 0 0 = 0""");
        edges.promise(10, "-1000000: n, what.", """
            !run 0 -1 = no, !run 0 3 = no, !run 0 MIN = no, !run 0 MAX = no, !run 40 3 = no, !run -1 3 = no, run 0 2 = -1, run 0 1 = 0""");
    }

    private static void runBelow0() {
        edges.promise(10, "in which of them (from 0) PURSE is below 0 first behind it; NONE.", """
            set 1 0 1 = 0, person 0 0 = 0, set 6 0 0 = 5
            set 2 0 19 = 100, run 1 2 = 0, run 2 2 = 0, run 40 2 = 0, set 2 0 20 = 19, run 1 2 = -1, run 2 2 = 1, run 1 0 = 0
            set 2 0 41 = 20, run 2 2 = -1, run 2 0 = 0, run 3 2 = 2, set 2 0 -1 = 41, run 0 2 = -1, run 1 2 = 0""");
        edges.promise(10, "in which of them (from 0) PURSE is below 0 first behind it; NONE.", """
            person 0 0 = 0, set 2 0 -5 = 100, run 1 2 = -1, run 1 0 = 0, run 40 2 = -1, set 2 0 -6 = -5, run 1 2 = 0, run 40 2 = 0
            rule "thinks 0;mends 0;claims (years<39)*5+(years=39)*99+(38<years);"
            set 1 0 1 = 0, set 2 0 93 = -6, run 39 2 = -1, run 40 2 = 39, set 2 0 94 = 93, run 40 2 = -1, run 40 0 = 0""");
    }

    private static void runInThought() {
        edges.promise(10, "in thought (there YEARS may pass 99)", """
            rule "thinks 98<years;mends 0;claims years-99;"
            set 0 0 99 = 0, set 1 0 1 = 0, person 0 0 = 0, run 1 0 = 105, run 0 1 = 1, set 0 0 60 = 99, run 38 1 = 0, run 39 1 = 1
            run 40 1 = 1, told 0 0 = 60, set 1 0 999 = 1, set 0 0 99 = 60, run 1 0 = 105, run 2 0 = 109, run 3 0 = 112, run 40 1 = 0
            run 40 0 = -480""");
        edges.promise(10, "how many are HAZY at last (told behind them)", """
            person 3 3 = 0, person 3 4 = 1, person 5 0 = 2, run 0 1 = 1, run 2 1 = 1, run 3 1 = 2, run 4 1 = 3, run 40 1 = 3, told 0 0 = 0""");
        edges.promise(10, "(each within the bound)", """
            person 0 0 = 0, set 2 0 99999 = 100, run 1 0 = 99999, run 40 0 = 99999, set 1 0 1 = 0, run 1 0 = 99979
            set 2 0 -99999 = 99999, run 1 0 = -99999, run 40 0 = -99999, run 1 2 = 0, set 6 0 99 = 5, run 1 0 = -99920""");
    }

    private static void society() {
        edges.promise(11, "-1000000: what.", """
            !society -1 = no, !society 5 = no, !society MIN = no, !society MAX = no, society 0 = 0, society 1 = 0, society 2 = 0
            society 3 = 255, society 4 = 0""");
        edges.promise(11, "How many are HAZY (what 0), DUE (1), PREMIUMS of all (2)", """
            6* person 0 0 = 5, society 0 = 6, society 1 = 0, society 2 = 30, set 1 0 1 = 0, society 0 = 0, society 1 = 120
            set 6 0 99 = 5, set 6 1 99 = 5, set 6 2 99 = 5, set 6 3 99 = 5, set 6 4 99 = 5, set 6 5 99 = 5, society 2 = 594
            set 6 5 0 = 99, society 2 = 495""");
        edges.promise(11, "DUE: CLAIMS of all who aren't HAZY, together.", """
            rule "thinks 0;mends 0;claims 99;"
            set 1 0 1 = 0, 6* person 3 0 = 5, society 1 = 1188, set 1 0 0 = 1, society 1 = 0""");
        edges.promise(11, "HAZY: MEMORY is LIMIT or more.", """
            weathers 1 2 3
            person 0 0 = 0, person 1 0 = 1, set 1 0 6 = 0, society 0 = 2, set 1 0 7 = 6, society 0 = 0, society 1 = 40, set 3 1 -2 = 2
            set 1 0 3 = 7, society 0 = 1, society 1 = 20, set 1 0 2 = 3, society 0 = 2, society 1 = 0""");
    }

    private static void never() {
        edges.promise(11, "NEVER: HOURS (bits) of which all THINK 0.", """
            society 3 = 255, person 0 0 = 0, society 3 = 255, set 3 0 1 = 0, society 3 = 254, set 3 7 -1 = 0, society 3 = 126
            person 1 0 = 1, society 3 = 126, set 3 0 0 = 1, society 3 = 127, person 4 0 = 2, society 3 = 127, set 3 7 0 = -1
            society 3 = 127, set 4 1 1 = 0, society 3 = 125""");
        edges.promise(11, "NEVER: HOURS (bits) of which all THINK 0.", """
            weathers -1 -1 -1 -1 -1 -1 -1 -1
            person 1 0 = 0, society 3 = 255, person 2 7 = 1, society 3 = 127, person 5 0 = 2, society 3 = 0""");
    }

    private static void costOfTheRest() {
        edges.promise(11, "COST of all HOURS that aren't MENDED (4)", """
            society 4 = 0, person 0 0 = 0, society 4 = 80, set 4 0 1 = 0, society 4 = 70, set 4 7 1 = 0, society 4 = 60, set 3 1 9 = 0
            society 4 = 51, set 4 1 1 = 0, set 4 2 1 = 0, set 4 3 1 = 0, set 4 4 1 = 0, set 4 5 1 = 0, society 4 = 10, set 4 6 1 = 0
            society 4 = 0""");
        edges.promise(11, "(nobody: 0)", """
            person 5 9 = 0, society 4 = 0
            rule "thinks 0;mends 99;claims 0;"
            5* person 0 0 = 5, society 4 = 3960""");
    }
}
