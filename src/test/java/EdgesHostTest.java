import java.io.IOException;

/** The edges of promises 25 to 29: the host's sheets, and casts. */
public final class EdgesHostTest {
    private static Edges edges;

    public static void main(String[] args) throws IOException {
        edges = new Edges("EdgesHostTest");
        sheet();
        sheetAnew();
        cell();
        cellsOfEachSort();
        copyRefuses();
        copyPlaces();
        copyAsTheyWere();
        peopleRefuses();
        peopleOutside();
        peopleLeftOut();
        peopleOfEachSort();
        taken();
        edges.end(25, 29);
    }

    private static void sheet() {
        edges.promise(25, "BAD: no such SHEET, sort; n above 40; -14.", """
            !sheet -1 0 1 = -2, !sheet 4 0 1 = -2, !sheet MIN 0 1 = -2, !sheet MAX 0 1 = -2
            !sheet 0 -2 1 = -2, !sheet 0 3 1 = -2, !sheet 0 MIN 1 = -2, !sheet 0 MAX 1 = -2
            !sheet 0 0 41 = -2, !sheet 0 2 MAX = -2, !sheet 0 0 -1 = -14, !sheet 0 1 MIN = -14, !sheet 0 2 -40 = -14
            !sheet 4 0 -1 = -2, !sheet 0 3 -1 = -2, !sheet -1 -1 -1 = -2, !sheet 0 -2 41 = -2, !cell 0 0 0 = -11
            sheet 0 0 0 = 1, sheet 0 0 40 = 1, sheet 3 2 1 = 1, sheet 3 1 40 = 1""");
        edges.promise(25, "A SHEET becomes a row of n of a sort, all 0, or missing (sort -1: n does not matter): 1.", """
            sheet 0 -1 0 = 1, !cell 0 0 0 = -11, sheet 0 0 5 = 1, cell 0 4 1 = 1, sheet 0 -1 41 = 1, !cell 0 4 1 = -11, sheet 0 1 5 = 1
            sheet 0 -1 -1 = 1, !cell 0 0 1 = -11, sheet 0 -1 MIN = 1, sheet 0 -1 MAX = 1, !cell 0 0 1 = -11, sheet 3 -1 40 = 1
            !sheet 4 -1 0 = -2, !sheet -1 -1 0 = -2""");
        edges.promise(25, "SHEETS 0 .. 3 are rows of numbers", """
            sheet 0 0 1 = 1, sheet 1 1 2 = 1, sheet 2 2 3 = 1, sheet 3 0 40 = 1, cell 0 0 1 = 1, !cell 0 1 1 = -12, cell 1 1 1 = 1
            !cell 1 2 1 = -12, cell 2 2 1 = 1, !cell 2 3 1 = -12, cell 3 39 1 = 1, !cell 3 40 1 = -12, !sheet 3 0 41 = -2
            !sheet 3 0 -1 = -14, !sheet 3 3 7 = -2, cell 3 39 1 = 1""");
    }

    private static void sheetAnew() {
        edges.promise(25, "a row of n of a sort, all 0", """
            person 0 0 = 0
            row 0 2 1 2 3 4 5 6 7 8
            tells 0 0 0 = 0, sheet 0 2 8 = 1, tells 0 0 0 = -1
            row 0 1 9 8 7 6 5 4 3 2 1 1 1 1
            sheet 0 2 8 = 1, tells 0 0 0 = -1, cell 0 0 1 = 1, !sheet 0 2 41 = -2, !sheet 0 3 8 = -2, !sheet 0 2 -1 = -14, tells 0 0 10 = 1024
            sheet 0 2 3 = 1, sheet 0 2 8 = 1, tells 0 0 0 = -1, sheet 0 -1 0 = 1, sheet 0 0 8 = 1, tells 0 0 0 = -1""");
    }

    private static void cell() {
        edges.promise(26, "BAD: no such SHEET; -11; -12.", """
            !cell -1 0 0 = -2, !cell 4 0 0 = -2, !cell MIN 0 0 = -2, !cell MAX 0 0 = -2, !cell 4 -1 0 = -2
            !cell 0 0 0 = -11, !cell 0 -1 0 = -11, !cell 3 MAX 0 = -11, sheet 0 0 3 = 1, !cell 0 -1 0 = -12, cell 0 0 1 = 1, cell 0 2 1 = 1
            !cell 0 3 0 = -12, !cell 0 MIN 0 = -12, !cell 0 MAX 0 = -12, sheet 1 1 0 = 1, !cell 1 0 0 = -12, !cell 1 -1 0 = -12
            sheet 2 2 40 = 1, cell 2 39 MAX = 1, !cell 2 40 0 = -12, sheet 2 -1 0 = 1, !cell 2 39 0 = -11""");
        edges.promise(26, "Item i of a SHEET becomes v", """
            person 0 0 = 0, sheet 0 2 8 = 1, cell 0 0 3 = 1, cell 0 7 -9 = 1, tells 0 0 0 = 0, set 3 0 3 = 0, tells 0 0 0 = 7, set 3 7 -9 = 0
            tells 0 0 0 = -1, !cell 0 8 1 = -12, !cell 0 -1 1 = -12, tells 0 0 0 = -1, cell 0 0 3 = 1, tells 0 0 0 = -1""");
    }

    private static void cellsOfEachSort() {
        edges.promise(26, "(of bytes, shorts its lowest 8, 16 bits)", """
            weathers 5 -1 0 -9 9 1 -2 7
            person 0 0 = 0
            row 0 0 261 255 256 -265 -247 MIN MAX 65543
            tells 0 0 0 = 5, cell 0 5 257 = 1, tells 0 0 0 = 6, cell 0 6 254 = 1, tells 0 0 0 = -1
            row 0 1 65541 65535 65536 -65545 9 65537 65534 MIN
            tells 0 0 0 = 7, cell 0 7 -65529 = 1, tells 0 0 0 = -1, cell 0 0 261 = 1, tells 0 0 0 = 0""");
        edges.promise(26, "of sort 0 bytes, 1 shorts, 2 ints", """
            person 0 0 = 0
            row 0 2 256 0 0 0 0 0 0 0
            tells 0 0 0 = 0, cell 0 0 0 = 1, cell 0 1 65536 = 1, tells 0 0 0 = 1, cell 0 1 MIN = 1, tells 0 0 0 = 1, cell 0 1 0 = 1, tells 0 0 0 = -1
            row 0 1 256 0 0 0 0 0 0 0
            tells 0 0 0 = 0, cell 0 0 65536 = 1, tells 0 0 0 = -1, cell 0 0 MIN = 1, tells 0 0 0 = -1, cell 0 0 32768 = 1, tells 0 0 0 = 0
            row 0 0 256 65536 MIN 0 0 0 0 0
            tells 0 0 0 = -1, cell 0 3 128 = 1, tells 0 0 0 = 3""");
    }

    private static void copyRefuses() {
        edges.promise(27, "BAD: no such SHEET; -11; -13: they are of unlike sorts; -12 (also with n below 0).", """
            row 0 2 1 2 3 4 5 6 7 8
            row 1 2 0 0 0 0 0 0 0 0
            row 2 1 1 1 1
            person 0 0 = 0
            !copy -1 0 0 0 1 = -2, !copy 4 0 0 0 1 = -2, !copy 0 0 -1 0 1 = -2, !copy 0 0 4 0 1 = -2, !copy 3 0 4 0 1 = -2, !copy 4 0 3 0 1 = -2
            !copy MIN 0 0 0 1 = -2, !copy 0 0 MAX 0 1 = -2, !copy 4 -1 0 0 -1 = -2
            !copy 3 0 0 0 1 = -11, !copy 0 0 3 0 1 = -11, !copy 3 0 3 0 1 = -11, !copy 2 0 3 0 1 = -11, !copy 3 -1 0 0 -1 = -11
            !copy 0 0 2 0 1 = -13, !copy 2 0 0 0 1 = -13, !copy 0 -1 2 0 1 = -13, !copy 2 0 0 0 -1 = -13, !copy 2 0 0 0 0 = -13
            !copy 0 0 1 0 -1 = -12, !copy 0 0 1 0 MIN = -12, !copy 0 -1 1 0 1 = -12, !copy 0 0 1 -1 1 = -12, !copy 0 0 0 0 9 = -12""");
    }

    private static void copyPlaces() {
        edges.promise(27, "n numbers of a SHEET, from item i on, come to another one's item j on", """
            row 0 2 1 2 3 4 5 6 7 8
            row 1 2 0 0 0 0 0 0 0 0
            person 0 0 = 0
            !copy 0 8 1 0 1 = -12, !copy 0 0 1 8 1 = -12, !copy 0 7 1 0 2 = -12, !copy 0 0 1 7 2 = -12, !copy 0 1 1 0 8 = -12
            !copy 0 0 1 1 8 = -12, !copy 0 0 1 0 9 = -12, !copy 0 MAX 1 0 1 = -12, !copy 0 0 1 MAX 1 = -12, !copy 0 1 1 0 MAX = -12
            !copy 0 MAX 1 MAX MAX = -12, !copy 0 MIN 1 0 MIN = -12, !copy 0 MIN 1 0 1 = -12, tells 1 0 0 = -1
            copy 0 7 1 7 1 = 1, tells 1 0 0 = 7, copy 0 0 1 0 1 = 1, tells 1 0 0 = 0, tells 0 0 0 = 0, copy 0 0 1 0 8 = 8
            weathers 1 2 3 4 5 6 7 8
            tells 1 0 0 = -1, tells 0 0 0 = -1""");
        edges.promise(27, "n numbers of a SHEET, from item i on, come to another one's item j on (as they were): n.", """
            row 0 2 1 2 3 4 5 6 7 8
            row 1 2 9 9 9
            person 0 0 = 0, copy 0 0 1 0 0 = 0, copy 0 8 1 3 0 = 0, !copy 0 9 1 0 0 = -12, !copy 0 0 1 4 0 = -12, !copy 0 -1 1 0 0 = -12
            !copy 0 0 1 -1 0 = -12, copy 1 0 0 5 3 = 3, !copy 1 0 0 5 4 = -12, !copy 1 0 0 6 3 = -12, !copy 1 1 0 0 3 = -12
            weathers 1 2 3 4 5 9 9 9
            tells 0 0 0 = -1, copy 0 0 1 0 3 = 3, !copy 0 0 1 0 4 = -12, copy 1 2 0 7 1 = 1, tells 0 0 0 = 7, set 3 7 3 = 9, tells 0 0 0 = -1""");
        edges.promise(27, "n numbers of a SHEET", """
            sheet 0 0 0 = 1, sheet 1 0 40 = 1, copy 0 0 0 0 0 = 0, copy 0 0 1 40 0 = 0, copy 1 40 0 0 0 = 0, !copy 0 0 1 0 1 = -12
            !copy 0 1 1 0 0 = -12, copy 1 0 1 0 40 = 40, !copy 1 0 1 0 41 = -12, !copy 1 1 1 0 40 = -12, !copy 1 0 1 41 0 = -12""");
    }

    private static void copyAsTheyWere() {
        edges.promise(27, "(as they were)", """
            row 0 2 1 2 3 4 5 6 7 8
            person 0 0 = 0, copy 0 0 0 2 5 = 5
            weathers 1 2 1 2 3 4 5 8
            tells 0 0 0 = -1
            row 0 2 1 2 3 4 5 6 7 8
            copy 0 2 0 0 5 = 5
            weathers 3 4 5 6 7 6 7 8
            tells 0 0 0 = -1
            row 0 0 1 2 3 4 5 6 7 8
            copy 0 0 0 1 7 = 7
            weathers 1 1 2 3 4 5 6 7
            tells 0 0 0 = -1""");
    }

    private static void peopleRefuses() {
        edges.promise(28, "BAD: no such SHEET, sort, n; -13; -11; -12", """
            row 0 1 0 0 0 0
            !people -1 1 0 1 = -2, !people 4 1 0 1 = -2, !people MIN 1 0 1 = -2, !people MAX 1 0 1 = -2, !people 0 -1 0 1 = -2
            !people 0 3 0 1 = -2, !people 0 MIN 0 1 = -2, !people 0 MAX 0 1 = -2, !people 0 1 0 -1 = -2, !people 0 1 0 7 = -2
            !people 0 1 0 MIN = -2, !people 0 1 0 MAX = -2, !people 1 1 0 7 = -2, !people 1 3 0 1 = -2, !people 4 1 0 7 = -2
            !people 0 0 0 1 = -13, !people 0 2 0 1 = -13, !people 0 0 -1 1 = -13, !people 0 2 9 6 = -13, !people 0 0 0 7 = -2
            !people 1 1 0 1 = -11, !people 1 0 -1 1 = -11, !people 3 2 0 6 = -11, count 0 = 0""");
        edges.promise(28, "n of them (0 .. 6)", """
            row 0 0 0 1 0 2 0 3 0 4 0 5 0 6 0 7
            people 0 0 0 0 = 0, count 0 = 0, people 0 0 0 1 = 1, count 0 = 1, people 0 0 2 5 = 5, count 0 = 6, told 0 5 = 1, told 5 5 = 6
            !people 0 0 0 7 = -2, people 0 0 0 6 = 0, people 0 0 2 6 = 0, !people 0 0 0 -1 = -2""");
        edges.promise(28, "n of them (0 .. 6)", """
            row 0 2 5 9 4 8 3 7 2 6 1 5 0 4
            people 0 2 0 6 = 6, told 0 7 = 5, told 0 5 = 9, told 5 7 = 0, told 5 5 = 4, told 5 6 = 5""");
    }

    private static void peopleOutside() {
        edges.promise(28, "-12: what stood ahead came.", """
            row 0 0 1 2 9 9 3 4 5
            people 0 0 0 4 = -12, count 0 = 2, told 0 7 = 1, told 0 5 = 2, told 1 7 = 3, told 1 5 = 4, people 0 0 4 1 = 1, count 0 = 3
            !people 0 0 6 1 = -12, !people 0 0 7 1 = -12, people 0 0 5 1 = 1, told 3 7 = 4, told 3 5 = 5, people 0 0 5 2 = -12, count 0 = 5""");
        edges.promise(28, "-12: what stood ahead came.", """
            row 0 0 1 2 3 4
            !people 0 0 -1 1 = -12, !people 0 0 -2 6 = -12, !people 0 0 MIN 6 = -12, !people 0 0 MAX 1 = -12, !people 0 0 MAX 6 = -12
            !people 0 0 4 1 = -12, !people 0 0 3 1 = -12, !people 0 0 3 6 = -12, count 0 = 0, people 0 0 2 1 = 1, told 0 7 = 3
            people 0 0 2 2 = -12, count 0 = 2, sheet 1 0 0 = 1, !people 1 0 0 1 = -12, sheet 1 0 1 = 1, !people 1 0 0 1 = -12, sheet 1 0 2 = 1
            people 1 0 0 1 = 1""");
        edges.promise(28, "from one on, two by two", """
            sheet 0 2 40 = 1, people 0 2 38 1 = 1, !people 0 2 39 1 = -12, people 0 2 28 6 = 5, count 0 = 6, !people 0 2 29 6 = -12
            count 0 = 6, people 0 2 38 1 = 0""");
    }

    private static void peopleLeftOut() {
        edges.promise(28, "how many came (others are left out)", """
            row 0 2 -1 0 6 0 0 -1 0 10 5 9 0 0
            people 0 2 0 4 = 0, count 0 = 0, people 0 2 0 6 = 2, told 0 7 = 5, told 0 5 = 9, told 1 7 = 0, count 0 = 2, 3* person 0 0 = 4
            people 0 2 8 2 = 1, told 5 7 = 5, count 0 = 6, people 0 2 8 2 = 0, people 0 2 0 6 = 0, !people 0 2 10 2 = -12, count 0 = 6""");
        edges.promise(28, "(as of person())", """
            row 0 2 MIN 0 MAX 0 0 MIN 0 MAX 256 0 0 256
            people 0 2 0 6 = 0, count 0 = 0
            row 0 0 256 0 0 256 255 0 0 255 128 0 5 265
            people 0 0 0 6 = 3, told 0 7 = 0, told 1 5 = 0, told 2 7 = 5, told 2 5 = 9, told 2 6 = 5""");
    }

    private static void peopleOfEachSort() {
        edges.promise(28, "PEOPLE by a SHEET that is taken for one of a sort", """
            row 0 0 1 1
            row 1 1 2 2
            row 2 2 3 3
            people 0 0 0 1 = 1, !people 0 1 0 1 = -13, !people 0 2 0 1 = -13, !people 1 0 0 1 = -13, people 1 1 0 1 = 1, !people 1 2 0 1 = -13
            !people 2 0 0 1 = -13, !people 2 1 0 1 = -13, people 2 2 0 1 = 1, !people 2 1 0 0 = -13, people 2 2 0 0 = 0, !people 3 0 0 1 = -11
            count 0 = 3, told 0 7 = 1, told 1 7 = 2, told 2 7 = 3, person 0 0 = 3, film 3 3 = 0, people 3 0 0 1 = 1, !people 3 1 0 1 = -13""");
    }

    private static void taken() {
        edges.promise(29, "BAD: k; -11: none such; -13.", """
            !taken 0 -1 = -2, !taken 0 6 = -2, !taken 0 MIN = -2, !taken 0 MAX = -2, !taken -1 -1 = -2, !taken 0 0 = -11, !taken -1 0 = -11
            person 0 3 = 0, taken 0 0 = 3, !taken 0 5 = -13, !taken 0 1 = -13, !taken 1 0 = -11, !taken -1 5 = -11, !taken MIN 0 = -11
            !taken MAX 0 = -11, !taken 0 6 = -2, !taken 1 6 = -2, !taken 0 -1 = -2, 5* person 5 9 = 5, taken 5 5 = 9, !taken 6 5 = -11""");
        edges.promise(29, "One of PEOPLE taken for one of KIND k (0 .. 5), or one under that one (also by others between): the NUMBER.", """
            person 0 0 = 0, person 1 1 = 1, person 2 2 = 2, person 3 3 = 3, person 4 4 = 4, person 5 9 = 5
            taken 0 0 = 0, !taken 0 1 = -13, !taken 0 2 = -13, !taken 0 3 = -13, !taken 0 4 = -13, !taken 0 5 = -13
            taken 1 0 = 1, taken 1 1 = 1, !taken 1 2 = -13, !taken 1 3 = -13, !taken 1 4 = -13, !taken 1 5 = -13
            taken 2 0 = 2, !taken 2 1 = -13, taken 2 2 = 2, !taken 2 3 = -13, !taken 2 4 = -13, !taken 2 5 = -13
            taken 3 0 = 3, taken 3 1 = 3, !taken 3 2 = -13, taken 3 3 = 3, !taken 3 4 = -13, !taken 3 5 = -13
            taken 4 0 = 4, !taken 4 1 = -13, taken 4 2 = 4, !taken 4 3 = -13, taken 4 4 = 4, !taken 4 5 = -13
            taken 5 0 = 9, !taken 5 1 = -13, !taken 5 2 = -13, !taken 5 3 = -13, !taken 5 4 = -13, taken 5 5 = 9""");
        edges.promise(29, "the NUMBER", "person 3 0 = 0, taken 0 1 = 0, set 5 0 9 = 0, taken 0 1 = 9, !taken 0 2 = -13, image = 1, person 0 0 = 1, back = 1, !taken 1 0 = -11");
    }
}
