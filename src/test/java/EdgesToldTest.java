import java.io.IOException;

/** The edges of promises 18 to 24: memories that were told, weather that is drawn, images, counts. */
public final class EdgesToldTest {
    private static Edges edges;

    public static void main(String[] args) throws IOException {
        edges = new Edges("EdgesToldTest");
        tellsRefuses();
        tellsTheFirst();
        tellsKinds();
        tellsNumbers();
        tellsYears();
        tellsMended();
        tellsTexts();
        tellsPeople();
        tellsWeathers();
        tellsOfBytes();
        film();
        drawn();
        chance();
        image();
        back();
        backKeepsTheRest();
        count();
        edges.end(18, 24);
    }

    private static void tellsRefuses() {
        edges.promise(18, "BAD: SHEET, one, what; -11; BAD: it doesn't tell 8.", """
            row 0 0 0 0 0 0 0 0 0 0
            !tells 0 0 0 = -2, person 0 0 = 0, tells 0 0 0 = -1, !tells -1 0 0 = -2, !tells 4 0 0 = -2, !tells MIN 0 0 = -2
            !tells MAX 0 0 = -2, !tells 0 -1 0 = -2, !tells 0 1 0 = -2, !tells 0 MIN 0 = -2, !tells 0 MAX 0 = -2
            !tells 1 0 0 = -11, !tells 3 0 17 = -11, !tells 1 1 0 = -2, !tells 1 -1 0 = -2, !tells 1 0 9 = -2, !tells 1 0 -1 = -2
            !tells 1 0 18 = -2, !tells 4 0 9 = -2""");
        edges.promise(18, "BAD: it doesn't tell 8", """
            person 0 0 = 0, sheet 0 0 7 = 1, !tells 0 0 0 = -2, !tells 0 0 10 = -2, sheet 0 0 9 = 1, !tells 0 0 0 = -2, sheet 0 0 0 = 1
            !tells 0 0 0 = -2, sheet 0 2 40 = 1, !tells 0 0 8 = -2, sheet 0 1 8 = 1, tells 0 0 0 = -1, sheet 0 -1 8 = 1, !tells 0 0 0 = -11
            sheet 3 0 8 = 1, tells 3 0 0 = -1""");
        edges.promise(18, "TEXTS (7), PEOPLE (8), WEATHERS of HOUR what less 10 (10 .. 17; bits)", """
            person 0 0 = 0, sheet 2 2 8 = 1, tells 2 0 7 = 1, tells 2 0 8 = 1, !tells 2 0 9 = -2, tells 2 0 10 = 512, tells 2 0 17 = 512
            !tells 2 0 18 = -2, !tells 2 0 -1 = -2, !tells 2 0 MIN = -2, !tells 2 0 MAX = -2, tells 2 0 0 = -1""");
        edges.promise(18, "PEOPLE (6 at most, numbered from 0)", """
            6* person 0 0 = 5, sheet 0 0 8 = 1, tells 0 5 0 = -1, tells 0 5 8 = 63, !tells 0 6 0 = -2""");
    }

    private static void tellsTheFirst() {
        edges.promise(18, "the first that is otherwise (what 0; NONE)", """
            person 0 0 = 0, sheet 0 0 8 = 1, tells 0 0 0 = -1, cell 0 7 1 = 1, tells 0 0 0 = 7, cell 0 3 -1 = 1, tells 0 0 0 = 3, cell 0 0 1 = 1
            tells 0 0 0 = 0, set 3 0 1 = 0, tells 0 0 0 = 3, set 3 3 -1 = 0, tells 0 0 0 = 7, set 3 7 1 = 0, tells 0 0 0 = -1""");
    }

    private static void tellsKinds() {
        edges.promise(18, "KINDS (bits 0 .. 5)", """
            row 0 0 0 0 0 0 0 0 0 0
            person 3 0 = 0, tells 0 0 1 = 47, person 4 1 = 1, set 3 7 -9 = 0, tells 0 1 1 = 6, cell 0 7 -9 = 1, tells 0 1 1 = 1, cell 0 7 9 = 1
            tells 0 1 1 = 48, set 5 1 7 = 1, tells 0 1 1 = 48, cell 0 7 -18 = 1, tells 0 1 1 = 4, cell 0 7 5 = 1, tells 0 1 1 = 0
            told 0 7 = 3, told 1 7 = 4""");
    }

    private static void tellsNumbers() {
        edges.promise(18, "NUMBERS (bits 0 .. 9)", """
            sheet 0 0 8 = 1, person 0 5 = 0, tells 0 0 2 = 1023, person 2 5 = 1, set 3 0 1 = 0, tells 0 1 2 = 766, cell 0 0 2 = 1
            tells 0 1 2 = 257, set 3 0 0 = 1, cell 0 0 0 = 1, set 3 1 1 = 0, tells 0 1 2 = 509, cell 0 1 2 = 1, tells 0 1 2 = 514
            tells 0 0 2 = 0, told 1 5 = 5""");
        edges.promise(18, "NUMBERS (bits 0 .. 9)", """
            rule "thinks number;mends 0;claims 0;"
            sheet 0 0 8 = 1, person 0 5 = 0, tells 0 0 2 = 1
            row 0 0 9 9 9 9 9 9 9 9
            tells 0 0 2 = 512
            row 0 0 10 10 10 10 10 10 10 10
            tells 0 0 2 = 0, told 0 5 = 5""");
    }

    private static void tellsYears() {
        edges.promise(18, "YEARS (of 0 .. 99: how many, the least)", """
            person 0 0 = 0, sheet 0 0 8 = 1, tells 0 0 3 = 100, tells 0 0 4 = 0, cell 0 0 1 = 1, tells 0 0 3 = 0, tells 0 0 4 = -1
            rule "thinks (years=0)+(years=99)*2;mends 0;claims 0;"
            row 0 0 1 1 1 1 1 1 1 1
            tells 0 0 3 = 1, tells 0 0 4 = 0
            row 1 0 2 2 2 2 2 2 2 2
            tells 1 0 3 = 1, tells 1 0 4 = 99, sheet 2 0 8 = 1, tells 2 0 3 = 98, tells 2 0 4 = 1, told 0 0 = 0""");
        edges.promise(18, "YEARS: how many (3), the least (4; NONE)", """
            person 3 9 = 0, set 0 0 50 = 0, sheet 0 0 8 = 1, tells 0 0 3 = 91, tells 0 0 4 = 9
            row 1 0 -5 -5 -5 -5 -5 -5 -5 -5
            tells 1 0 3 = 9, tells 1 0 4 = 0
            rule "thinks 99<years;mends 0;claims 0;"
            row 1 0 1 1 1 1 1 1 1 1
            tells 1 0 3 = 0, tells 1 0 4 = -1, told 0 0 = 50""");
    }

    private static void tellsMended() {
        edges.promise(18, "MENDED sets (of 0 .. 255: how many, the least)", """
            person 0 0 = 0, sheet 0 0 8 = 1, tells 0 0 5 = 1, tells 0 0 6 = 0
            row 0 0 9 9 9 9 9 9 9 9
            tells 0 0 5 = 1, tells 0 0 6 = 255, cell 0 7 0 = 1, tells 0 0 6 = 127, cell 0 7 1 = 1, tells 0 0 5 = 0, tells 0 0 6 = -1
            sheet 0 0 8 = 1, set 3 7 -9 = 0, tells 0 0 5 = 1, tells 0 0 6 = 128, count 1 = 0
            set 3 7 0 = -9, set 4 0 1 = 0, set 4 7 1 = 0, tells 0 0 5 = 1, tells 0 0 6 = 0, tells 0 0 0 = 0, count 1 = 2""");
        edges.promise(18, "MENDED sets: how many (5), the least (6; NONE)", """
            person 2 1 = 0, set 4 5 1 = 0, sheet 0 0 8 = 1, tells 0 0 5 = 128, tells 0 0 6 = 0, cell 0 1 18 = 1, tells 0 0 5 = 128
            tells 0 0 6 = 2, set 3 0 9 = 0, tells 0 0 5 = 128, set 3 1 9 = 0, tells 0 0 5 = 128, tells 0 0 6 = 0, cell 0 0 18 = 1
            tells 0 0 5 = 0, tells 0 0 6 = -1
            rule "thinks 5;mends 0;claims 0;"
            sheet 0 0 8 = 1, cell 0 1 10 = 1, tells 0 0 5 = 256, tells 0 0 6 = 0, count 1 = 1""");
    }

    private static void tellsTexts() {
        edges.promise(18, "TEXTS (bits), were they THE RULE, by which all would be so", """
            person 0 0 = 0, sheet 0 0 8 = 1, tells 0 0 7 = 1
            tape "thinks 0;mends 0;claims 0;", text = 1, tells 0 0 7 = 3
            tape "thinks hour;mends 0;claims 0;", text = 2, tells 0 0 7 = 3
            tape "thinks 7<hour;mends 0;claims 0;", text = 3, tape "thinks hour=7;mends 0;claims 0;", text = 4
            tape "thinks last;mends 0;claims 0;", text = 5, tells 0 0 7 = 43, force 4 = 0, tells 0 0 7 = 43, count 5 = 4
            set 3 0 1 = 0, tells 0 0 7 = 10, set 3 0 0 = 1, cell 0 7 1 = 1, tells 0 0 7 = 16""");
    }

    private static void tellsPeople() {
        edges.promise(18, "PEOPLE (bits) who think just so", """
            person 0 0 = 0, person 1 0 = 1, sheet 0 0 8 = 1, tells 0 0 8 = 3, set 3 0 -1 = 0, tells 0 0 8 = 2, tells 0 1 8 = 2
            person 5 0 = 2, person 4 7 = 3, person 2 7 = 4, person 3 0 = 5, tells 0 0 8 = 50, cell 0 7 9 = 1, tells 0 0 8 = 8
            cell 0 7 0 = 1, cell 0 0 1 = 1, tells 0 0 8 = 4, cell 0 0 -1 = 1, tells 0 5 8 = 1, cell 0 1 1 = 1, tells 0 5 8 = 0""");
    }

    private static void tellsWeathers() {
        edges.promise(18, "WEATHERS of one HOUR (bits: -9 is bit 0)", """
            person 0 0 = 0, sheet 0 0 8 = 1, cell 0 0 -9 = 1, tells 0 0 10 = 1, tells 0 0 11 = 0, cell 0 0 9 = 1, tells 0 0 10 = 262144
            cell 0 0 10 = 1, tells 0 0 10 = 0, cell 0 0 -10 = 1, tells 0 0 10 = 0, cell 0 0 0 = 1, tells 0 0 10 = 512, cell 0 7 -8 = 1
            tells 0 0 17 = 2, tells 0 0 16 = 0, set 4 7 1 = 0, cell 0 7 0 = 1, tells 0 0 17 = 1, cell 0 7 18 = 1, tells 0 0 17 = 262144
            told 7 3 = 0, told 0 3 = 0""");
        edges.promise(18, "WEATHERS of HOUR what less 10 (10 .. 17; bits)", """
            person 1 0 = 0, sheet 0 0 8 = 1, tells 0 0 10 = 1023, tells 0 0 17 = 1023
            rule "thinks last<1;mends 0;claims 0;"
            row 0 0 1 1 1 1 1 1 1 1
            tells 0 0 10 = 1023, tells 0 0 16 = 1023, tells 0 0 17 = 524287, cell 0 1 0 = 1, tells 0 0 10 = 523264, tells 0 0 11 = 0""");
    }

    private static void tellsOfBytes() {
        edges.promise(18, "of sort 0 bytes, 1 shorts, 2 ints", """
            rule "thinks -1;mends 0;claims 0;"
            person 0 0 = 0
            row 0 0 255 -1 511 -257 65535 MAX 255 -1
            tells 0 0 0 = -1
            row 0 1 65535 -1 65535 -65537 MAX 131071 -1 -1
            tells 0 0 0 = -1, cell 0 6 255 = 1, tells 0 0 0 = 6
            row 0 2 -1 -1 -1 -1 -1 -1 65535 255
            tells 0 0 0 = 6, cell 0 6 -1 = 1, tells 0 0 0 = 7""");
    }

    private static void film() {
        edges.promise(19, "-1000000: SHEET, one.", """
            !film 0 0 = no, !film -1 0 = no, person 0 0 = 0, !film -1 0 = no, !film 4 0 = no, !film 0 -1 = no, !film 0 1 = no
            !film MIN 0 = no, !film MAX 0 = no, !film 0 MIN = no, !film 0 MAX = no, !cell 0 0 0 = -11, film 0 0 = 0, film 3 0 = 0
            cell 0 7 0 = 1, !cell 0 8 0 = -12, !cell 1 0 0 = -11, cell 3 7 0 = 1, 5* person 0 0 = 5, film 1 5 = 0, !film 1 6 = no""");
        edges.promise(19, "A SHEET truly becomes what one THINKS of HOURS 0 .. 7 (bytes): MEMORY.", """
            rule "thinks weather*99;mends 0;claims 0;"
            weathers 1 -1 9 -9 0 0 0 0
            person 0 0 = 0, sheet 2 2 40 = 1, film 2 0 = 0, !cell 2 8 0 = -12, tells 2 0 0 = -1, !people 2 2 0 0 = -13, people 2 0 0 0 = 0
            set 3 4 -1 = 0, film 2 0 = -99, tells 2 0 0 = -1, set 3 4 1 = -1, tells 2 0 0 = 4, film 2 0 = 99, tells 2 0 0 = -1""");
        edges.promise(19, "A SHEET truly becomes what one THINKS of HOURS 0 .. 7 (bytes)", """
            weathers 1 2 3 4 5 6 7 8
            row 1 1 9 9 9
            person 5 0 = 0, person 4 0 = 1, film 1 1 = 11, tells 1 1 0 = -1, tells 1 0 0 = 0, film 1 0 = 36, tells 1 0 0 = -1
            tells 1 1 0 = 0, sheet 3 0 8 = 1, copy 1 0 3 0 8 = 8, tells 3 0 0 = -1""");
    }

    private static void drawn() {
        edges.promise(20, "z being z * 1103515245 + 12345 (an int; SEED at first) anew for each", """
            drawn 0 = 0, drawn MIN = 0, drawn MAX = 0, drawn -1 = 0, person 2 0 = 0
            # of 0 z is 12345, and 24 % 19 less 9 is -4; of 1 it is 1103527590, and 2155327 % 19 less 9 is -4 too
            set 1 0 -8 = 0, drawn 0 = 1, drawn 1 = 1, set 1 0 -7 = -8, drawn 0 = 0, drawn 1 = 0
            # of -1 z is -1103502900, 3191464396 as it is shifted: 6233328 % 19 less 9 is 8
            set 1 0 16 = -7, drawn -1 = 1, set 1 0 17 = 16, drawn -1 = 0, told 0 3 = 0""");
        edges.promise(20, "DRAWN by a SEED: WEATHERS of HOURS, in order, would be (z >>> 9) % 19 less 9", """
            # of MIN z is MIN and 12345 more, 2147495993 as it is shifted: 4194328 % 19 less 9 is -7
            person 2 0 = 0, set 1 0 -14 = 0, drawn MIN = 1, set 1 0 -13 = -14, drawn MIN = 0
            # of MAX z is 1043980748: 2039024 % 19 less 9 is -8
            set 1 0 -16 = -13, drawn MAX = 1, set 1 0 -15 = -16, drawn MAX = 0
            # of 8 hour 0 is 9, of 9 it is -9
            set 1 0 18 = -15, drawn 8 = 1, set 1 0 19 = 18, drawn 8 = 0, set 1 0 -18 = 19, drawn 9 = 1, set 1 0 -17 = -18, drawn 9 = 0""");
        edges.promise(20, "WEATHERS of HOURS, in order", """
            # of 0 they are -4 9 -1 -3 -1 -7 -5 -4, of MAX -8 7 -2 -8 -9 -4 8 3
            person 0 0 = 0, set 1 0 -16 = 0, drawn 0 = 1, set 1 0 -15 = -16, drawn 0 = 0
            set 1 0 -13 = -15, drawn MAX = 1, set 1 0 -12 = -13, drawn MAX = 0
            rule "thinks (hour+1)*weather;mends 0;claims 0;"
            set 1 0 -115 = -12, drawn 0 = 1, set 1 0 -114 = -115, drawn 0 = 0""");
        edges.promise(20, "how many are HAZY", """
            6* person 0 0 = 5, set 1 0 -999 = 0, drawn 7 = 6, set 1 0 999 = -999, drawn 7 = 0, told 0 3 = 0, told 7 3 = 0""");
    }

    private static void chance() {
        edges.promise(21, "NO: m, k, part.", """
            !chance 0 0 0 0 = NO, !chance 0 21 0 0 = NO, !chance 0 -1 0 0 = NO, !chance 0 MIN 0 0 = NO, !chance 0 MAX 0 0 = NO
            !chance 0 1 -1 0 = NO, !chance 0 1 7 0 = NO, !chance 0 1 MIN 0 = NO, !chance 0 1 MAX 0 = NO
            !chance 0 1 0 -1 = NO, !chance 0 1 0 2 = NO, !chance 0 1 0 MIN = NO, !chance 0 1 0 MAX = NO
            chance 0 1 0 0 = 1, chance 0 1 0 1 = 1, chance 0 20 0 0 = 1, chance 0 20 0 1 = 1, chance 0 1 6 0 = 0, chance 0 1 6 1 = 1
            chance 0 20 6 0 = 0, chance 0 20 6 1 = 1""");
        edges.promise(21, "of these those by which that is k (0 .. 6) or more", """
            6* person 0 0 = 5, set 1 0 -999 = 0, chance 5 20 6 0 = 1, chance 5 20 6 1 = 1, chance 5 20 5 0 = 1, set 1 0 999 = -999
            chance 5 20 1 0 = 0, chance 5 20 1 1 = 1, chance 5 20 0 0 = 1""");
        edges.promise(21, "IN m seeds (1 .. 20), SEED and each 1 more (an int)", """
            # a boy thinks -16 of hour 0 by MAX, -14 by MIN, which is 1 more; 16 by -1, -8 by 0
            person 2 0 = 0, set 1 0 -14 = 0, chance MAX 1 1 0 = 0, chance MAX 1 1 1 = 1, chance MIN 1 1 0 = 1, chance MIN 1 1 1 = 1
            chance MAX 2 1 0 = 1, chance MAX 2 1 1 = 2, set 1 0 -16 = -14, chance MAX 2 1 0 = 1, chance MAX 2 1 1 = 1
            set 1 0 16 = -16, chance -1 1 1 0 = 1, chance -1 2 1 0 = 1, chance -1 2 1 1 = 2""");
        edges.promise(21, "part 0 above, 1 below the line, in lowest terms", """
            # a boy thinks -8 of hour 0 by the seeds 0 .. 3, 4 by 4, 6 by 5 .. 7, 18 by 8, -18 by 9 .. 11
            person 2 0 = 0, set 1 0 4 = 0, chance 0 4 1 0 = 0, chance 0 4 1 1 = 1, chance 0 5 1 0 = 1, chance 0 5 1 1 = 5
            chance 0 6 1 0 = 1, chance 0 6 1 1 = 3, chance 0 8 1 0 = 1, chance 0 8 1 1 = 2, chance 2 6 1 0 = 2, chance 2 6 1 1 = 3
            chance 3 5 1 0 = 4, chance 3 5 1 1 = 5, chance 4 4 1 0 = 1, chance 4 4 1 1 = 1, chance 0 12 1 0 = 5, chance 0 12 1 1 = 12
            chance 1 9 1 0 = 5, chance 1 9 1 1 = 9, chance 0 10 1 0 = 1, chance 0 10 1 1 = 2, chance 4 6 1 0 = 5, chance 4 6 1 1 = 6""");
    }

    private static void image() {
        edges.promise(22, "AN IMAGE is kept: how many of PEOPLE.", """
            image = 0, back = 0, person 0 0 = 0, back = 0, !haze 0 = -2, 6* person 0 0 = 5, image = 6, back = 6, !person 0 0 = -4, count 0 = 6
            set 2 0 7 = 100, image = 6, set 2 0 8 = 7, back = 6, told 0 2 = 7""");
    }

    private static void back() {
        edges.promise(23, "STATE: there is none.", "!back = -3, person 0 0 = 0, !back = -3, count 0 = 1, image = 1, back = 1, back = 1");
        edges.promise(23, "AN IMAGE keeps WEATHERS, MENDED, YEARS, LIMIT, PURSE, NUMBERS, PREMIUMS, THE RULE (PEOPLE that came since go).", """
            tape "thinks 1;mends 0;claims 0;", text = 1, person 1 3 = 0, set 3 0 -9 = 0, set 3 7 9 = 0, set 4 0 1 = 0, set 0 0 99 = 0
            set 1 0 -999 = 0, set 2 0 -99999 = 100, set 5 0 9 = 3, set 6 0 99 = 5, force 1 = 0, image = 1
            set 3 0 9 = -9, set 3 7 -9 = 9, set 4 0 0 = 1, set 4 7 1 = 0, set 0 0 0 = 99, set 1 0 999 = -999, set 2 0 99999 = -99999
            set 5 0 0 = 9, set 6 0 0 = 99, force 0 = 1, 5* person 5 5 = 5, back = 1, count 0 = 1, told 0 3 = -9, told 7 3 = 9, told 0 4 = 1
            told 7 4 = 0, told 0 0 = 99, told 0 1 = -999, told 0 2 = -99999, told 0 5 = 9, told 0 6 = 99, count 5 = 1, told 0 7 = 1
            !told 1 7 = no, person 2 2 = 1, told 1 6 = 5""");
    }

    private static void backKeepsTheRest() {
        edges.promise(23, "All that it keeps is as in THE IMAGE", """
            person 0 0 = 0, image = 1, sheet 0 1 8 = 1, cell 0 0 5 = 1, tape "thinks 1;mends 0;claims 0;", text = 1, feed 32 = 1, back = 1
            count 3 = 2, count 4 = 1, cell 0 7 1 = 1, tells 0 0 0 = 0, force 1 = 0, told 0 20 = 1, back = 1, count 5 = 0, told 0 20 = 0""");
        edges.promise(23, "how many of PEOPLE", """
            image = 0, person 0 0 = 0, person 0 0 = 1, back = 0, count 0 = 0, person 3 3 = 0, image = 1, person 0 0 = 1, image = 2
            person 0 0 = 2, back = 2, told 0 7 = 3, told 1 7 = 0, set 5 0 0 = 3, year = 110, right 0 = 15, back = 2
            told 0 2 = 100, told 0 0 = 0, count 1 = 0""");
    }

    private static void count() {
        edges.promise(24, "How many: 0 PEOPLE, 1 MENDED HOURS, 2 YEARS, 3 TEXTS, 4 bytes of THE TAPE, 5 THE RULE. BAD.", """
            !count -1 = -2, !count 6 = -2, !count MIN = -2, !count MAX = -2, count 0 = 0, count 1 = 0, count 2 = 0, count 3 = 1, count 4 = 0
            count 5 = 0, 6* person 0 0 = 5, count 0 = 6, set 0 0 99 = 0, count 2 = 99, set 4 0 1 = 0, count 1 = 1, set 4 7 1 = 0, count 1 = 2
            160* feed 32 = 160, count 4 = 160, text = -260, count 4 = 0, count 3 = 1""");
        edges.promise(24, "1 MENDED HOURS", """
            right 0 = 0, right 1 = 0, right 2 = 0, right 3 = 0, right 4 = 0, right 5 = 0, right 6 = 0, count 1 = 7, right 7 = 0, count 1 = 8
            set 4 7 1 = 1, count 1 = 8, set 4 3 0 = 1, count 1 = 7""");
        edges.promise(24, "3 TEXTS", """
            tape "thinks 1;mends 0;claims 0;", text = 1, count 3 = 2, tape "thinks 1;mends 0;claims 0;", text = 2, count 3 = 3
            tape "thinks 1;mends 0;claims 0;", text = 3, tape "thinks 1;mends 0;claims 0;", text = 4
            tape "thinks 1;mends 0;claims 0;", text = 5, count 3 = 6, !text = -4, count 3 = 6, force 5 = 0, count 5 = 5""");
    }
}
