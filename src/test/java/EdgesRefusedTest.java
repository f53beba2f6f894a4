import java.io.IOException;

/** What is refused, of each promise, on an outing where much is there that a refused call could change. */
public final class EdgesRefusedTest {
    private static final String CHANGE_NOTHING = "Refusals, the first that the call's words name; they change nothing";

    /** Five people, two texts, a tape, an image of another time, SHEETS of each sort and a missing one. */
    private static final String MUCH = """
        weathers 3 -5 9 0 -9 2 7 -1
        person 0 1, person 3 9, person 5 4, person 2 3, set 6 0 50, set 4 2 1, set 4 6 1, set 0 0 42, set 1 0 11, set 2 0 -777
        image
        rule "thinks weather+hour;mends hour;claims number;"
        tape "thinks 1;mends"
        row 0 0 3 -4 11 3 -5 7 13 6
        row 1 1 1 2 3
        row 2 2 1 2 3 4 5 6 7 8 9
        person 4 4, set 2 0 50, set 0 0 43, set 3 0 1, set 4 2 0, set 5 0 0
        """;

    private static Edges edges;

    public static void main(String[] args) throws IOException {
        edges = new Edges("EdgesRefusedTest");
        outing();
        texts();
        years();
        best();
        told();
        host();
        nobody();
        edges.end(2, 29);
    }

    private static void refused(int promise, String calls) {
        edges.promise(promise, CHANGE_NOTHING, MUCH + calls);
    }

    private static void outing() {
        refused(2, """
            !set 0 0 100 = no, !set 0 0 -1 = no, !set 1 0 1000 = no, !set 1 0 -1000 = no, !set 2 0 100000 = no, !set 2 0 -100000 = no
            !set 3 0 10 = no, !set 3 8 1 = no, !set 4 0 2 = no, !set 4 -1 1 = no, !set 5 0 10 = no, !set 5 5 1 = no, !set 6 0 100 = no
            !set 6 -1 1 = no, !set 7 0 1 = no, !set -1 0 1 = no, !set MIN MIN MIN = no, !set MAX MAX MAX = no""");
        refused(3, """
            !person -1 0 = -2, !person 6 0 = -2, !person 0 -1 = -2, !person 0 10 = -2, person 1 1 = 5, !person 0 0 = -4, !person 5 9 = -4
            !person 6 0 = -2""");
        refused(4, """
            !told 5 7 = no, !told 8 3 = no, !told 8 11 = no, !told 0 12 = no, !told 0 19 = no, !told 0 28 = no, !told 0 38 = no, !told 5 20 = no
            !told -1 30 = no, !told 0 -1 = no""");
    }

    private static void texts() {
        refused(5, "!feed -1 = -2, !feed 256 = -2, 146* feed 32 = 160, !feed 32 = -4, !feed 256 = -2, count 4 = 160");
        refused(6, """
            tape " 2;claims 3;", text = 2, tape "thinks 3;mends 0;claims 0;", text = 3, tape "thinks 4;mends 0;claims 0;", text = 4
            tape "thinks 5;mends 0;claims 0;", text = 5, tape "thinks ", !text = -4, !text = -4, count 4 = 7, count 3 = 6, count 5 = 1""");
        refused(7, "!force -1 = -2, !force 2 = -2, !force 6 = -2, !force MIN = -2, !force MAX = -2, count 5 = 1");
    }

    private static void years() {
        refused(8, "set 0 0 99 = 43, !year = no, !year = no, told 0 2 = 50, told 0 0 = 99");
        refused(9, "!right -1 = -2, !right 8 = -2, !right 6 = -3, !right MIN = -2, !right MAX = -2, told 0 2 = 50, count 1 = 1");
        refused(10, "!run -1 0 = no, !run 41 0 = no, !run 1 -1 = no, !run 1 3 = no, !run MAX 1 = no, !run 40 MIN = no");
        refused(11, "!society -1 = no, !society 5 = no, !society MIN = no, !society MAX = no");
    }

    private static void best() {
        refused(12, "!cheapest -1 0 = -2, !cheapest 7 0 = -2, !cheapest 1 -1 = -2, !cheapest 1 2 = -2, !cheapest MAX MIN = -2");
        refused(13, "!most -1 0 = -2, !most 1000 0 = -2, !most 1 -1 = -2, !most 1 3 = -2, !most MIN MAX = -2");
        refused(14, "!haze -1 = -2, !haze 5 = -2, !haze MIN = -2, !haze MAX = -2");
        // It refuses nothing: NONE alone, which is asked.
        edges.promise(15, "PREMIUM. NONE.", MUCH + "premium = 0, set 2 0 -496 = 50, premium = -1, told 0 2 = -496, set 2 0 -495 = -496, premium = 99");
        refused(16, "!best -1 0 = no, !best 5 0 = no, !best 0 -1 = no, !best 0 3 = no, !best MIN MAX = no");
        refused(17, "!agree 0 0 = -2, !agree 0 5 = -2, !agree 5 0 = -2, !agree -1 0 = -2, !agree 4 4 = -2, !agree MIN MAX = -2");
    }

    private static void told() {
        refused(18, """
            !tells -1 0 0 = -2, !tells 4 0 0 = -2, !tells 0 5 0 = -2, !tells 0 0 9 = -2, !tells 0 0 18 = -2, !tells 3 0 0 = -11
            !tells 1 0 0 = -2, !tells 2 0 0 = -2, !tells 3 5 0 = -2, !tells 3 0 9 = -2""");
        refused(19, "!film -1 0 = no, !film 4 0 = no, !film 0 -1 = no, !film 0 5 = no, !film 3 5 = no, !film MIN 0 = no, !film 0 MAX = no");
        // It refuses nothing, and draws in thought alone.
        edges.promise(20, "DRAWN.", MUCH + "drawn 0, drawn -1, drawn MIN, drawn MAX, drawn 1103515245, told 0 3 = 1, told 7 3 = -1");
        refused(21, """
            !chance 0 0 0 0 = NO, !chance 0 21 0 0 = NO, !chance 0 1 -1 0 = NO, !chance 0 1 7 0 = NO, !chance 0 1 0 -1 = NO
            !chance 0 1 0 2 = NO, !chance MAX MAX MAX MAX = NO, !chance MIN MIN MIN MIN = NO""");
        // It refuses nothing: what is kept is another one then.
        edges.promise(22, "AN IMAGE is kept: how many of PEOPLE.", MUCH + "image = 5, back = 5, told 0 2 = 50, told 0 3 = 1, told 4 7 = 4");
        edges.promise(23, "All that it keeps is as in THE IMAGE: how many of PEOPLE.", MUCH + """
            back = 4, told 0 2 = -777, told 0 0 = 42, told 0 3 = 3, told 2 4 = 1, told 0 5 = 1, told 0 6 = 50, count 5 = 0, !told 4 7 = no
            count 3 = 2, count 4 = 14, cell 2 8 1 = 1, !cell 1 3 0 = -12, told 0 1 = 11, tells 0 0 0 = 1""");
        refused(24, "!count -1 = -2, !count 6 = -2, !count MIN = -2, !count MAX = -2");
    }

    private static void host() {
        refused(25, """
            !sheet -1 0 8 = -2, !sheet 4 0 8 = -2, !sheet 0 -2 8 = -2, !sheet 0 3 8 = -2, !sheet 0 0 41 = -2, !sheet 0 0 -1 = -14
            !sheet 3 2 41 = -2, !sheet 3 2 -1 = -14, !sheet 4 -1 0 = -2, tells 0 0 0 = 0, !cell 3 0 0 = -11""");
        refused(26, """
            !cell -1 0 9 = -2, !cell 4 0 9 = -2, !cell 3 0 9 = -11, !cell 0 -1 9 = -12, !cell 0 8 9 = -12, !cell 1 3 9 = -12, !cell 2 9 9 = -12
            tells 0 0 10 = 4096, tells 0 0 17 = 0""");
        refused(27, """
            !copy -1 0 0 0 1 = -2, !copy 0 0 4 0 1 = -2, !copy 3 0 0 0 1 = -11, !copy 0 0 3 0 1 = -11, !copy 0 0 1 0 1 = -13
            !copy 2 0 0 0 1 = -13, !copy 0 0 0 1 8 = -12, !copy 0 1 0 0 8 = -12, !copy 0 0 0 1 -1 = -12, !copy 0 -1 0 0 1 = -12
            !copy 0 0 0 -1 1 = -12, !copy 0 0 0 8 1 = -12, tells 0 0 10 = 4096""");
        refused(28, """
            !people -1 1 0 1 = -2, !people 4 1 0 1 = -2, !people 1 -1 0 1 = -2, !people 1 3 0 1 = -2, !people 1 1 0 -1 = -2, !people 1 1 0 7 = -2
            !people 1 0 0 1 = -13, !people 1 2 0 1 = -13, !people 3 1 0 1 = -11, !people 1 1 -1 1 = -12, !people 1 1 2 1 = -12
            !people 1 1 3 1 = -12, count 0 = 5, people 1 1 1 2 = -12, count 0 = 6, told 5 7 = 2, told 5 5 = 3""");
        refused(29, "!taken 0 -1 = -2, !taken 0 6 = -2, !taken 5 0 = -11, !taken -1 0 = -11, !taken 0 1 = -13, !taken 4 1 = -13, !taken 1 2 = -13");
    }

    private static void nobody() {
        edges.promise(23, CHANGE_NOTHING, "tape \"thinks\", set 2 0 7 = 100, right 3 = 0, !back = -3, count 4 = 6, told 0 2 = 7, count 1 = 1");
        edges.promise(19, CHANGE_NOTHING, "sheet 0 2 3 = 1, !film 0 0 = no, !film 1 0 = no, cell 0 2 1 = 1, !cell 1 0 0 = -11");
        edges.promise(29, CHANGE_NOTHING, "!taken 0 0 = -11, !taken 0 6 = -2, !taken -1 -1 = -2, count 0 = 0");
    }
}
