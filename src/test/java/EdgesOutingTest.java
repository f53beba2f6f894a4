import java.io.IOException;

/** The edges of promises 1 to 4: the outing and its people. */
public final class EdgesOutingTest {
    private static Edges edges;

    public static void main(String[] args) throws IOException {
        edges = new Edges("EdgesOutingTest");
        aNewObject();
        setNumbers();
        setOfHours();
        setOfPeople();
        setRefuses();
        person();
        told();
        thinks();
        thinksOfAnAunt();
        mending();
        claims();
        boundsOfKinds();
        hazy();
        cost();
        namesOfTexts();
        edges.end(1, 4);
    }

    private static void aNewObject() {
        edges.promise(1, "Nobody.", """
            count 0 = 0, !told 0 7 = no, !told 0 5 = no, !haze 0 = -2, society 0 = 0, society 2 = 0, image = 0""");
        edges.promise(1, "each of a WEATHER (-9 .. 9; 0 at first)", """
            told 0 3 = 0, told 1 3 = 0, told 2 3 = 0, told 3 3 = 0, told 4 3 = 0, told 5 3 = 0, told 6 3 = 0, told 7 3 = 0""");
        edges.promise(1, "MENDED or not (1, 0; 0 at first)", """
            told 0 4 = 0, told 1 4 = 0, told 2 4 = 0, told 3 4 = 0, told 4 4 = 0, told 5 4 = 0, told 6 4 = 0, told 7 4 = 0
            count 1 = 0""");
        edges.promise(1, "YEARS since (0 .. 99; 0 at first)", "told 0 0 = 0, count 2 = 0");
        edges.promise(1, "LIMIT (-999 .. 999; 0 at first)", "told 0 1 = 0");
        edges.promise(1, "(-99999 .. 99999; 100 at first)", "told 0 2 = 100");
        edges.promise(1, "There are 6 TEXTS at most, TEXT 0 with them.", "count 3 = 1, !force 1 = -2, force 0 = 0");
        edges.promise(1, "THE TAPE (160 bytes at most)", "count 4 = 0, text = -100");
        edges.promise(1, "TEXT 0, at first THE RULE, is: thinks weather + mended * 9 ; mends 10 - weather ; claims 20 + years ;", """
            count 5 = 0, person 0 0 = 0
            told 0 20 = 0, told 0 30 = 10, set 3 0 -9 = 0, told 0 20 = -9, told 0 30 = 19, set 4 0 1 = 0, told 0 20 = 0
            told 0 30 = 19, set 3 0 9 = -9, told 0 20 = 18, told 0 30 = 1, told 0 10 = 0, set 1 0 19 = 0, told 0 10 = 20
            set 0 0 78 = 0, told 0 10 = 98, set 0 0 79 = 78, told 0 10 = 99, set 0 0 80 = 79, told 0 10 = 99""");
        edges.promise(1, "or missing (as all are at first)", """
            !cell 0 0 0 = -11, !cell 1 0 0 = -11, !cell 2 0 0 = -11, !cell 3 0 0 = -11""");
        edges.promise(1, "AN IMAGE keeps WEATHERS, MENDED, YEARS, LIMIT, PURSE, NUMBERS, PREMIUMS, THE RULE", "!back = -3, count 0 = 0");
    }

    private static void setNumbers() {
        edges.promise(2, "YEARS since (0 .. 99; 0 at first)", """
            !set 0 0 -1 = no, set 0 0 0 = 0, set 0 0 99 = 0, !set 0 0 100 = no, told 0 0 = 99, !set 0 0 MIN = no
            !set 0 0 MAX = no, set 0 0 1 = 99, told 0 0 = 1""");
        edges.promise(2, "YEARS (what 0; of does not matter)", """
            set 0 -1 3 = 0, set 0 8 4 = 3, set 0 MIN 5 = 4, set 0 MAX 6 = 5, told 7 0 = 6, told -1 0 = 6, told MIN 0 = 6
            told MAX 0 = 6""");
        edges.promise(2, "LIMIT (-999 .. 999; 0 at first)", """
            !set 1 0 -1000 = no, set 1 0 -999 = 0, told 0 1 = -999, !set 1 0 1000 = no, set 1 0 999 = -999, told 0 1 = 999
            !set 1 0 MIN = no, !set 1 0 MAX = no""");
        edges.promise(2, "LIMIT (1; nor)", "set 1 -1 3 = 0, set 1 8 4 = 3, set 1 MIN 5 = 4, set 1 MAX 6 = 5, told -1 1 = 6, told MAX 1 = 6");
        edges.promise(2, "(-99999 .. 99999; 100 at first)", """
            !set 2 0 -100000 = no, set 2 0 -99999 = 100, told 0 2 = -99999, !set 2 0 100000 = no, set 2 0 99999 = -99999
            told 0 2 = 99999, !set 2 0 MIN = no, !set 2 0 MAX = no""");
        edges.promise(2, "PURSE (2; nor)", "set 2 -1 3 = 100, set 2 8 4 = 3, set 2 MIN 5 = 4, set 2 MAX 6 = 5, told 99 2 = 6, told MIN 2 = 6");
    }

    private static void setOfHours() {
        edges.promise(2, "HOURS 0 .. 7, each of a WEATHER (-9 .. 9; 0 at first)", """
            !set 3 0 -10 = no, set 3 0 -9 = 0, !set 3 0 10 = no, set 3 0 9 = -9, told 0 3 = 9, told 1 3 = 0
            !set 3 7 -10 = no, set 3 7 -9 = 0, !set 3 7 10 = no, set 3 7 9 = -9, told 7 3 = 9, told 6 3 = 0
            !set 3 -1 0 = no, !set 3 8 0 = no, !set 3 MIN 0 = no, !set 3 MAX 0 = no, !set 3 0 MIN = no, !set 3 7 MAX = no""");
        edges.promise(2, "MENDED or not (1, 0; 0 at first)", """
            !set 4 0 -1 = no, set 4 0 1 = 0, !set 4 0 2 = no, set 4 0 1 = 1, set 4 0 0 = 1, set 4 0 0 = 0
            !set 4 7 -1 = no, set 4 7 1 = 0, !set 4 7 2 = no, told 7 4 = 1, told 6 4 = 0, told 0 4 = 0, count 1 = 1
            !set 4 -1 0 = no, !set 4 8 0 = no, !set 4 MIN 0 = no, !set 4 MAX 1 = no, !set 4 0 MIN = no, !set 4 0 MAX = no
            !set 4 -1 1 = no, !set 4 8 1 = no, !set 4 32 1 = no, count 1 = 1""");
    }

    private static void setOfPeople() {
        edges.promise(2, "a NUMBER (0 .. 9)", """
            !set 5 0 0 = no, person 0 7 = 0, person 0 8 = 1, !set 5 0 -1 = no, set 5 0 0 = 7, !set 5 0 10 = no, set 5 0 9 = 0
            told 0 5 = 9, told 1 5 = 8, !set 5 0 MIN = no, !set 5 0 MAX = no
            !set 5 -1 0 = no, !set 5 2 0 = no, set 5 1 1 = 8, !set 5 MIN 0 = no, !set 5 MAX 0 = no""");
        edges.promise(2, "PAY a PREMIUM (0 .. 99; 5 as one comes)", """
            !set 6 0 0 = no, person 0 0 = 0, person 0 0 = 1, told 0 6 = 5, told 1 6 = 5
            !set 6 0 -1 = no, set 6 0 0 = 5, !set 6 0 100 = no, set 6 0 99 = 0, told 0 6 = 99, told 1 6 = 5
            !set 6 0 MIN = no, !set 6 0 MAX = no, !set 6 -1 0 = no, !set 6 2 0 = no, !set 6 MIN 0 = no, !set 6 MAX 0 = no""");
        edges.promise(2, "PEOPLE (6 at most, numbered from 0)", """
            6* person 0 0 = 5, set 5 5 9 = 0, set 6 5 99 = 5, !set 5 6 0 = no, !set 6 6 0 = no, told 5 5 = 9, told 5 6 = 99
            told 4 5 = 0, told 4 6 = 5, !told 6 5 = no, !told 6 6 = no""");
    }

    private static void setRefuses() {
        edges.promise(2, "-1000000: what, of, v.", """
            person 0 0 = 0, !set -1 0 0 = no, !set 7 0 0 = no, !set 8 0 0 = no, !set 11 0 0 = no, !set MIN 0 0 = no
            !set MAX 0 0 = no, set 6 0 0 = 5, set 0 0 1 = 0""");
        edges.promise(2, "becomes v: what it was", """
            set 0 0 7 = 0, set 0 0 7 = 7, set 0 0 8 = 7, set 1 0 -5 = 0, set 1 0 -5 = -5, set 3 4 -9 = 0, set 3 4 -9 = -9, set 3 4 1 = -9""");
    }

    private static void person() {
        edges.promise(3, "have a KIND: 0 GUEST, 1 MOTHER under GUEST, 2 BOY under GUEST, 3 AUNT under MOTHER, 4 BABY under BOY, 5 WIDOW under GUEST", """
            !person -1 0 = -2, !person 6 0 = -2, !person MIN 0 = -2, !person MAX 0 = -2, count 0 = 0
            person 0 0 = 0, person 5 0 = 1, told 0 7 = 0, told 1 7 = 5""");
        edges.promise(3, "a NUMBER (0 .. 9)", """
            !person 0 -1 = -2, !person 0 10 = -2, !person 0 MIN = -2, !person 0 MAX = -2, count 0 = 0
            person 0 0 = 0, person 0 9 = 1, told 0 5 = 0, told 1 5 = 9""");
        edges.promise(3, "PEOPLE (6 at most, numbered from 0)", """
            person 0 1 = 0, person 1 2 = 1, person 2 3 = 2, person 3 4 = 3, person 4 5 = 4, person 5 6 = 5, !person 0 0 = -4
            count 0 = 6, told 0 5 = 1, told 5 5 = 6, told 5 7 = 5""");
        edges.promise(3, "One of PEOPLE: the number. BAD; FULL.", """
            6* person 0 0 = 5, !person 0 10 = -2, !person -1 0 = -2, !person 6 0 = -2, !person 0 -1 = -2, !person 5 9 = -4""");
        edges.promise(3, "5 as one comes", """
            person 0 0 = 0, set 6 0 77 = 5, image = 1, person 0 0 = 1, set 6 1 66 = 5, back = 1, person 0 0 = 1, told 1 6 = 5, told 0 6 = 77""");
    }

    private static void told() {
        edges.promise(4, "-1000000: none such.", """
            !told 0 7 = no, !told 0 8 = no, !told 0 9 = no, !told 0 10 = no, !told 0 20 = no, !told 0 30 = no, told 0 11 = 0
            person 0 0 = 0, !told 0 -1 = no, !told 0 12 = no, !told 0 19 = no, !told 0 28 = no, !told 0 29 = no, !told 0 38 = no
            !told 0 MIN = no, !told 0 MAX = no, !told 0 1000 = no, !told 0 -1000000 = no
            told 0 0 = 0, told 0 6 = 5, told 0 7 = 0, told 0 8 = 0, told 0 9 = 1, told 0 10 = 0, told 0 11 = 10
            told 0 20 = 0, told 0 27 = 0, told 0 30 = 10, told 0 37 = 10""");
        edges.promise(4, "7 KIND, 8 MEMORY, 9 whether HAZY (1, 0), 10 CLAIMS (HAZY: 0) of one of PEOPLE", """
            person 0 0 = 0, person 5 0 = 1, told 1 7 = 5, !told 2 7 = no, !told -1 7 = no, !told 2 8 = no, !told -1 8 = no
            !told 2 9 = no, !told -1 9 = no, !told 2 10 = no, !told -1 10 = no, !told MIN 8 = no, !told MAX 9 = no""");
        edges.promise(4, "11 COST of an HOUR", """
            person 0 0 = 0, told 0 11 = 10, told 7 11 = 10, !told -1 11 = no, !told 8 11 = no, !told MIN 11 = no, !told MAX 11 = no""");
        edges.promise(4, "What 0 .. 6 as of set()", """
            !told -1 3 = no, !told 8 3 = no, !told -1 4 = no, !told 8 4 = no, !told 0 5 = no, !told 0 6 = no, person 0 3 = 0
            told 0 5 = 3, told 0 6 = 5, !told 1 5 = no, !told -1 5 = no, !told 1 6 = no, !told -1 6 = no, told 7 3 = 0, told 7 4 = 0
            !told MIN 3 = no, !told MAX 4 = no, !told MIN 5 = no, !told MAX 6 = no""");
        edges.promise(4, "20 .. 27 what one THINKS of HOUR what less 20, 30 .. 37 MENDING of HOUR what less 30", """
            weathers 1 2 3 4 5 6 7 8
            person 0 0 = 0, told 0 20 = 1, told 0 21 = 2, told 0 26 = 7, told 0 27 = 8, told 0 30 = 9, told 0 31 = 8, told 0 36 = 3
            told 0 37 = 2, !told 1 20 = no, !told -1 20 = no, !told 1 27 = no, !told 1 30 = no, !told -1 37 = no, !told MAX 20 = no
            !told MIN 30 = no""");
        edges.promise(4, "PEOPLE (6 at most, numbered from 0)", """
            6* person 0 0 = 5, told 5 7 = 0, told 5 8 = 0, told 5 9 = 1, told 5 10 = 0, told 5 20 = 0, told 5 37 = 10
            !told 6 7 = no, !told 6 8 = no, !told 6 9 = no, !told 6 10 = no, !told 6 20 = no, !told 6 37 = no""");
    }

    private static void thinks() {
        edges.promise(4, "GUEST: v; MOTHER: as a GUEST, 0 at least", """
            weathers -9 -1 0 1 9
            person 0 0 = 0, person 1 0 = 1, told 0 20 = -9, told 0 21 = -1, told 0 22 = 0, told 0 23 = 1, told 0 24 = 9
            told 1 20 = 0, told 1 21 = 0, told 1 22 = 0, told 1 23 = 1, told 1 24 = 9""");
        edges.promise(4, "BOY: twice a GUEST's, if h is NUMBER modulo 8, else 0", """
            weathers 1 2 3 4 5 6 7 -8
            person 2 0 = 0, told 0 20 = 2, told 0 21 = 0, told 0 27 = 0, set 5 0 7 = 0, told 0 27 = -16, told 0 20 = 0, told 0 26 = 0
            set 5 0 8 = 7, told 0 20 = 2, told 0 27 = 0, told 0 21 = 0, set 5 0 9 = 8, told 0 21 = 4, told 0 20 = 0, told 0 22 = 0
            told 0 8 = 4""");
        edges.promise(4, "BABY: 9, if h is 7, else as a BOY", """
            weathers 1 2 3 4 5 6 7 -8
            person 4 6 = 0, told 0 25 = 0, told 0 26 = 14, told 0 27 = 9, set 5 0 7 = 6, told 0 26 = 0, told 0 27 = 9, set 5 0 8 = 7
            told 0 20 = 2, told 0 27 = 9, told 0 26 = 0""");
        edges.promise(4, "WIDOW: 0 less a GUEST's, if that is below 0, else as a GUEST", """
            weathers -9 -1 0 1 9
            person 5 0 = 0, told 0 20 = 9, told 0 21 = 1, told 0 22 = 0, told 0 23 = 1, told 0 24 = 9""");
    }

    private static void thinksOfAnAunt() {
        edges.promise(4, "AUNT: 5 less than a MOTHER, if y is below NUMBER, else as a MOTHER", """
            weathers -9 0 1 9
            person 3 1 = 0, told 0 20 = -5, told 0 21 = -5, told 0 22 = -4, told 0 23 = 4, set 0 0 1 = 0
            told 0 20 = 0, told 0 21 = 0, told 0 22 = 1, told 0 23 = 9, set 5 0 0 = 1, set 0 0 0 = 1, told 0 20 = 0, told 0 23 = 9
            set 5 0 9 = 0, set 0 0 8 = 0, told 0 23 = 4, set 0 0 9 = 8, told 0 23 = 9, set 0 0 99 = 9, told 0 23 = 9""");
    }

    private static void mending() {
        edges.promise(4, "MENDING (of an HOUR, mends telling v): GUEST: v; MOTHER: half (cut) of a GUEST's; BOY: 1", """
            weathers 9 8 7 -9
            person 0 0 = 0, person 1 9 = 1, person 2 9 = 2, told 0 30 = 1, told 0 31 = 2, told 0 32 = 3, told 0 33 = 19
            told 1 30 = 0, told 1 31 = 1, told 1 32 = 1, told 1 33 = 9, told 2 30 = 1, told 2 33 = 1, told 2 37 = 1""");
        edges.promise(4, "AUNT: NUMBER more than a MOTHER; BABY: as a BOY; WIDOW: 0.", """
            weathers 9 8 7 -9
            person 3 0 = 0, person 4 9 = 1, person 5 9 = 2, told 0 30 = 0, told 0 33 = 9, set 5 0 9 = 0, told 0 30 = 9, told 0 31 = 10
            told 0 33 = 18, told 1 30 = 1, told 1 37 = 1, told 2 30 = 0, told 2 33 = 0""");
    }

    private static void claims() {
        edges.promise(4, "CLAIMS (if what one THINKS is below LIMIT, claims telling v): GUEST: v; MOTHER: as a GUEST; BOY: 0; AUNT: twice a MOTHER's", """
            set 1 0 1 = 0, person 0 0 = 0, person 1 0 = 1, person 2 0 = 2, person 3 0 = 3
            told 0 10 = 20, told 1 10 = 20, told 2 10 = 0, told 3 10 = 40, set 1 0 0 = 1
            told 0 10 = 0, told 1 10 = 0, told 2 10 = 0, told 3 10 = 0, set 1 0 1 = 0, set 0 0 99 = 0
            told 0 10 = 99, told 1 10 = 99, told 2 10 = 0, told 3 10 = 198""");
        edges.promise(4, "BABY: as a BOY; WIDOW: 0 less NUMBER.", """
            set 1 0 10 = 0, person 4 9 = 0, person 5 0 = 1, person 5 9 = 2, told 0 10 = 0, told 1 10 = 0, told 2 10 = -9
            set 1 0 0 = 10, told 2 10 = 0, told 0 10 = 0""");
        edges.promise(4, "10 CLAIMS (HAZY: 0)", """
            person 0 0 = 0, set 3 3 5 = 0, set 1 0 5 = 0, told 0 9 = 1, told 0 10 = 0, set 1 0 6 = 5, told 0 9 = 0, told 0 10 = 20""");
    }

    private static void boundsOfKinds() {
        edges.promise(4, "thinks (-99 .. 99, else the bound)", """
            rule "thinks 95+weather;mends 0;claims 0;"
            person 0 0 = 0, set 3 0 3 = 0, told 0 20 = 98, set 3 0 4 = 3, told 0 20 = 99, set 3 0 5 = 4, told 0 20 = 99
            rule "thinks weather-95;mends 0;claims 0;"
            set 3 0 -3 = 5, told 0 20 = -98, set 3 0 -4 = -3, told 0 20 = -99, set 3 0 -5 = -4, told 0 20 = -99""");
        edges.promise(4, "(THINKS -99 .. 99, MENDING 0 .. 99, CLAIMS -99 .. 999, else the bound.)", """
            rule "thinks 49+weather;mends 0;claims 0;"
            person 2 0 = 0, told 0 20 = 98, set 3 0 1 = 0, told 0 20 = 99, set 3 0 9 = 1, told 0 20 = 99
            rule "thinks weather-49;mends 0;claims 0;"
            set 3 0 0 = 9, told 0 20 = -98, set 3 0 -1 = 0, told 0 20 = -99, set 3 0 -9 = -1, told 0 20 = -99""");
        edges.promise(4, "5 less than a MOTHER", """
            rule "thinks weather*99;mends 0;claims 0;"
            weathers 1 -1 9 -9
            person 3 1 = 0, told 0 20 = 94, told 0 21 = -5, told 0 22 = 94, told 0 23 = -5, person 5 0 = 1, told 1 20 = 99
            told 1 21 = 99, told 1 23 = 99, person 4 0 = 2, told 2 20 = 99, set 5 2 1 = 0, told 2 21 = -99, told 2 27 = 9""");
        edges.promise(4, "mends (0 .. 99, else the bound)", """
            rule "thinks 0;mends 98+weather;claims 0;"
            person 0 0 = 0, person 1 0 = 1, person 3 9 = 2, person 2 0 = 3, told 0 30 = 98, told 1 30 = 49, told 2 30 = 58
            set 3 0 1 = 0, told 0 30 = 99, told 1 30 = 49, told 2 30 = 58, set 3 0 2 = 1, told 0 30 = 99, told 1 30 = 49, told 2 30 = 58
            rule "thinks 0;mends weather;claims 0;"
            set 3 0 1 = 2, told 0 30 = 1, told 1 30 = 0, set 3 0 0 = 1, told 0 30 = 0, told 1 30 = 0, told 2 30 = 9, told 3 30 = 1
            set 3 0 -1 = 0, told 0 30 = 0, told 1 30 = 0, told 2 30 = 9, set 3 0 -9 = -1, told 0 30 = 0, told 2 30 = 9, told 3 30 = 1""");
        edges.promise(4, "claims (0 .. 99, else the bound)", """
            rule "thinks 0;mends 0;claims years+5;"
            set 1 0 1 = 0, person 0 0 = 0, person 3 0 = 1, set 0 0 93 = 0, told 0 10 = 98, told 1 10 = 196, set 0 0 94 = 93
            told 0 10 = 99, told 1 10 = 198, set 0 0 95 = 94, told 0 10 = 99, told 1 10 = 198
            rule "thinks 0;mends 0;claims years-50;"
            set 0 0 51 = 95, told 0 10 = 1, told 1 10 = 2, set 0 0 50 = 51, told 0 10 = 0, set 0 0 49 = 50, told 0 10 = 0
            told 1 10 = 0, set 0 0 0 = 49, told 0 10 = 0, told 1 10 = 0""");
    }

    private static void hazy() {
        edges.promise(4, "HAZY: MEMORY is LIMIT or more.", """
            weathers 3 -5 9 0 -9 2 7 -1
            person 0 0 = 0, told 0 8 = 6, set 1 0 5 = 0, told 0 9 = 1, set 1 0 6 = 5, told 0 9 = 1, set 1 0 7 = 6, told 0 9 = 0
            set 1 0 999 = 7, told 0 9 = 0, set 1 0 -999 = 999, told 0 9 = 1""");
        edges.promise(4, "MEMORY of one: what one THINKS of all HOURS, together.", """
            rule "thinks 99;mends 0;claims 0;"
            person 0 0 = 0, told 0 8 = 792, set 1 0 792 = 0, told 0 9 = 1, set 1 0 793 = 792, told 0 9 = 0
            rule "thinks -99;mends 0;claims 0;"
            told 0 8 = -792, set 1 0 -792 = 793, told 0 9 = 1, set 1 0 -791 = -792, told 0 9 = 0
            set 1 0 -793 = -791, told 0 9 = 1""");
    }

    private static void cost() {
        edges.promise(4, "COST of an HOUR: MENDING of all PEOPLE, together (nobody: 0).", """
            told 0 11 = 0, told 7 11 = 0, person 5 0 = 0, told 0 11 = 0, person 0 0 = 1, told 0 11 = 10, set 4 0 1 = 0, told 0 11 = 10
            rule "thinks 0;mends 99;claims 0;"
            4* person 0 0 = 5, told 7 11 = 495, !person 0 0 = -4, told 7 11 = 495""");
    }

    private static void namesOfTexts() {
        edges.promise(4, "last: WEATHER of the HOUR ahead (of HOUR 0: 0)", """
            rule "thinks last;mends last+9;claims 9;"
            weathers 1 2 3 4 5 6 7 8
            person 0 0 = 0, told 0 20 = 0, told 0 21 = 1, told 0 26 = 6, told 0 27 = 7, told 0 30 = 9, told 0 31 = 10, told 0 37 = 16""");
        edges.promise(4, "mended: 1, if it is MENDED, else 0", """
            rule "thinks mended;mends mended+5;claims 9;"
            set 4 0 1 = 0, set 4 7 1 = 0, person 0 0 = 0, told 0 20 = 1, told 0 21 = 0, told 0 26 = 0, told 0 27 = 1, told 0 30 = 6
            told 0 31 = 5, told 0 37 = 6, set 4 7 0 = 1, told 0 27 = 0, told 0 37 = 5""");
        edges.promise(4, "(Of claims weather, hour, mended, last 0.)", """
            rule "thinks 0;mends 0;claims weather+hour+mended+last+7;"
            weathers 9 9 9 9 9 9 9 9
            set 4 0 1 = 0, set 4 7 1 = 0, set 1 0 1 = 0, person 0 9 = 0, told 0 27 = 0, told 0 37 = 0, told 0 10 = 7
            rule "thinks 0;mends 0;claims years+number;"
            told 0 10 = 9, set 0 0 99 = 0, told 0 10 = 99, set 0 0 89 = 99, told 0 10 = 98, set 5 0 0 = 9, told 0 10 = 89""");
        edges.promise(4, "hour: its number; years: YEARS; number: NUMBER", """
            rule "thinks hour*10+number;mends years;claims 0;"
            person 0 0 = 0, person 0 9 = 1, told 0 20 = 0, told 0 27 = 70, told 1 20 = 9, told 1 27 = 79, told 0 30 = 0
            set 0 0 99 = 0, told 0 30 = 99, told 1 37 = 99, told 1 27 = 79""");
    }
}
