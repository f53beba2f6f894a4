import java.io.IOException;

/** The edges of promises 5 to 7: the tape, texts and THE RULE. */
public final class EdgesTextsTest {
    private static Edges edges;

    public static void main(String[] args) throws IOException {
        edges = new Edges("EdgesTextsTest");
        feed();
        full();
        faultsPlace();
        words();
        numbers();
        signsAndBlanks();
        texts();
        expressions();
        opened();
        openedAmongOthers();
        openedAnew();
        wraps();
        truth();
        force();
        edges.end(5, 7);
    }

    private static void feed() {
        edges.promise(5, "A byte (0 .. 255)", """
            !feed -1 = -2, !feed 256 = -2, !feed MIN = -2, !feed MAX = -2, count 4 = 0, feed 0 = 1, feed 255 = 2, !feed -1 = -2
            !feed 256 = -2, count 4 = 2, text = -100, count 4 = 0, feed 65 = 1""");
        edges.promise(5, "THE TAPE (160 bytes at most)", """
            159* feed 32 = 159, feed 32 = 160, !feed 32 = -4, !feed 0 = -4, !feed 255 = -4, count 4 = 160, text = -260, count 4 = 0
            feed 32 = 1""");
        edges.promise(5, "how many it has. BAD; FULL.", """
            160* feed 32 = 160, !feed 256 = -2, !feed -1 = -2, !feed MAX = -2, !feed 255 = -4, count 4 = 160""");
    }

    private static void full() {
        edges.promise(6, "FULL (ahead of all): no TEXT more has room (THE TAPE stays).", """
            person 0 0 = 0
            tape "thinks 1;mends 0;claims 0;", text = 1, tape "thinks 2;mends 0;claims 0;", text = 2
            tape "thinks 3;mends 0;claims 0;", text = 3, tape "thinks 4;mends 0;claims 0;", text = 4, count 3 = 5
            tape "thinks 5;mends 0;claims 0;", text = 5, count 3 = 6, !text = -4, tape "thinks;", !text = -4, count 4 = 7
            count 3 = 6, !text = -4, force 5 = 0, told 0 20 = 5, force 1 = 5, told 0 20 = 1, feed 32 = 8""");
        edges.promise(6, "There are 6 TEXTS at most, TEXT 0 with them.", """
            fault "thinks ^;", count 3 = 1, tape "thinks 1;mends 0;claims 0;", text = 1, count 3 = 2, !force 2 = -2, force 1 = 0""");
        edges.promise(6, "THE TAPE, which is empty then (by a FAULT, too), is a TEXT: its number; -100 less the place of its FAULT.", """
            tape "thinks 1;mends 0;claims 0;", count 4 = 26, text = 1, count 4 = 0, text = -100, tape "claims", count 4 = 6, text = -100
            count 4 = 0, tape "thinks 1;mends 0;claims 0;", text = 2, count 4 = 0, count 3 = 3, count 5 = 0""");
    }

    private static void faultsPlace() {
        edges.promise(6, "(the text's size, if it ends too early)", """
            fault "^"
            fault " ^"
            fault " %0A ^"
            fault "thinks^"
            fault "thinks ^"
            fault "thinks 1^"
            fault "thinks 1;^"
            fault "thinks 1;mends^"
            fault "thinks 1;mends 2;claims^"
            fault "thinks 1;mends 2;claims 3^"
            fault "thinks 1;mends 2;claims 3  ^"
            fault "thinks (1^"
            fault "thinks not^"
            """);
        edges.promise(6, "the place of the first byte of the first TOKEN that can't stand there", """
            fault "^mends 1;"
            fault " %0A ^claims"
            fault "thinks 1;^thinks 2;"
            fault "thinks 1;^claims 2;"
            fault "thinks 1;mends 2;  ^weather"
            fault "thinks 1;mends 2;claims 3;^;"
            fault "thinks 1;mends 2;claims 3;  ^thinks 1"
            fault "thinks 1;mends 2;claims 3;^4"
            fault "thinks 1;mends 2;claims 3;^last"
            fault "thinks ^thinks"
            fault "thinks 12 ^34 $"
            """);
        edges.promise(6, "THE TAPE (160 bytes at most)", """
            tape "thinks 1;mends 2;claims 3;", 133* feed 32 = 159, feed 36 = 160, text = -259, 160* feed 97 = 160, text = -100""");
        edges.promise(6, "THE TAPE, which is empty then (by a FAULT, too)", """
            160* feed 57 = 160, text = -100, tape "thinks 1;mends 2;claims 3", text = -125, tape "thinks 1234", text = -111
            tape "thinks 1;mends 2;claims 3;", text = 1""");
        edges.promise(6, "THE TAPE, which is empty then (by a FAULT, too)", """
            160* feed 122 = 160, text = -100, tape "thinks weather", text = -114, tape "thinks", text = -106
            tape "thinks 1;mends 2;claims 3; ", text = 1""");
        edges.promise(6, "A TEXT is read from THE TAPE (160 bytes at most).", """
            tape "thinks 1;mends 2;claims", 135* feed 32 = 158, feed 57 = 159, feed 59 = 160, !feed 32 = -4, text = 1, person 0 0 = 0
            set 1 0 9 = 0, force 1 = 0, told 0 20 = 1, told 0 10 = 9""");
    }

    private static void words() {
        edges.promise(6, "a WORD that is neither KEY nor NAME", """
            fault "thinks ^weathe;"
            fault "thinks ^weathers;"
            fault "thinks ^eather;"
            fault "thinks ^a;"
            fault "thinks ^z;"
            fault "thinks ^hours;"
            fault "thinks ^thinksx;"
            fault "^thinkss 1;"
            fault "^think s 1;"
            fault "thinks 1 ^orr 1;"
            fault "thinks ^notweather;"
            fault "thinks 1 ^an 1;"
            fault "thinks 1;^mend 1;"
            fault "thinks ^weatherz;"
            fault "thinks ^xeather;mends 2;claims 3;"
            fault "^xhinks 1;"
            fault "thinks (^foo 1);mends 1;claims 1;"
            fault "thinks -^foo 1;mends 1;claims 1;"
            """);
        edges.promise(6, "TOKENS, each as long as can be: WORDS (a .. z)", """
            fault "thinks ^`;"
            fault "thinks ^{;"
            fault "thinks ^A;"
            fault "thinks ^Z;"
            fault "thinks weather^A;"
            fault "thinks weather^_;"
            fault "^Thinks 1;"
            fault "thinks weather^0;"
            fault "^thinksweather;"
            """);
        edges.promise(6, "NAMES are weather hour years number mended last; thinks, mends, claims, or, and, not are KEYS.", """
            tape "thinks weather+hour+years;mends number+mended+last;claims not years or number and 1;", text = 1
            fault "thinks ^thinks;"
            fault "thinks ^mends;"
            fault "thinks ^claims;"
            fault "thinks ^or;"
            fault "thinks ^and;"
            fault "thinks 1 ^weather;"
            fault "thinks 1 ^last;"
            """);
    }

    private static void numbers() {
        edges.promise(6, "NUMBERS (as many digits as stand there, 4 at most)", """
            tape "thinks 9999;mends 0000;claims 0099;", text = 1
            fault "thinks ^10000;"
            fault "thinks ^00000;"
            fault "thinks ^99999;"
            fault "thinks 9999+^12345;"
            fault "thinks 1;mends ^00001;"
            fault "thinks 1234 ^1;"
            fault "thinks ^1234567890123456789012345678901234567890;"
            """);
        edges.promise(6, "a NUMBER that is too long", """
            fault "^12345"
            fault "thinks 1;mends 2;claims 3;^12345"
            fault "thinks 1 ^00000;"
            fault "thinks (^00000 1);mends 1;claims 1;"
            fault "thinks not ^12345 1;mends 1;claims 1;"
            fault "thinks 1234^weather;"
            fault "thinks ^/;"
            fault "thinks ^:;"
            fault "thinks 1^/;"
            fault "thinks 1^:;"
            """);
    }

    private static void signsAndBlanks() {
        edges.promise(6, "also of a byte that begins none", """
            fault "^%00"
            fault "^%FF"
            fault "thinks ^%00;"
            fault "thinks ^%80;"
            fault "thinks ^!;"
            fault "thinks 1 ^>0;"
            fault "thinks ^[1];"
            fault "thinks 1 ^/1;"
            fault "thinks 1;mends 2;claims 3;^$"
            fault "thinks 1^.;"
            fault "thinks 1;mends 2;claims 3;^%00"
            fault "thinks ^%01;mends 2;claims 3;"
            fault "thinks ^%C8;mends 2;claims 3;"
            """);
        edges.promise(6, "SIGNS ( ) ; + - * < = ; blanks (32, 10) may stand between", """
            tape "thinks(1)+2-3*4<5;mends%0A1=2;claims%20%0A%0A3%20;", text = 1
            tape "%0A%20thinks%0A1%0A;%0Amends%0A2%0A;%0Aclaims%0A3%0A;%0A%20", text = 2
            fault "thinks^%09 1;"
            fault "thinks^%0B1;"
            fault "thinks^%0D1;"
            fault "thinks^%1F1;"
            fault "thinks^!1;"
            fault "thinks^%A01;"
            fault "thinks 1^'2;"
            fault "thinks 1^,2;"
            """);
    }

    private static void texts() {
        edges.promise(6, "TEXT: thinks E ; mends E ; claims E ;", """
            tape "thinks 1;mends 2;claims 3;", text = 1
            fault "thinks ^;mends 2;claims 3;"
            fault "thinks 1;mends ^;claims 3;"
            fault "thinks 1;mends 2;claims ^;"
            fault "thinks 1 ^mends 2;claims 3;"
            fault "thinks 1;mends 2 ^claims 3;"
            fault "thinks 1;^;mends 2;"
            fault "thinks 1;mends 2;^mends 2;"
            fault "thinks 1;mends 2;claims 3;^claims 3;"
            """);
    }

    private static void expressions() {
        edges.promise(6, "NOT: not NOT, or SUM, perhaps < or = and a SUM.", """
            fault "thinks 1<2^<3;"
            fault "thinks 1<2^=3;"
            fault "thinks 1=2^<3;"
            fault "thinks 1=2^=3;"
            fault "thinks 1<^;"
            fault "thinks 1<^<2;"
            fault "thinks ^<1;"
            fault "thinks not 1<2^<3;"
            fault "thinks 1+^not 1;"
            fault "thinks 1<^not 1;"
            fault "thinks -^not 1;"
            tape "thinks 1<2 and 3<4;mends (1<2)<3;claims 1=(2=3);", text = 1
            """);
        edges.promise(6, "E: AND { or AND }. AND: NOT { and NOT }.", """
            fault "thinks 1 or ^;"
            fault "thinks 1 or ^or 1;"
            fault "thinks 1 or ^and 1;"
            fault "thinks 1 and ^and 1;"
            fault "thinks 1 and ^or 1;"
            fault "thinks 1 and ^;"
            tape "thinks 1 or 1 or 1 and 1 and 1;mends 1;claims 1;", text = 1
            """);
        edges.promise(6, "SUM: TERM { + or - TERM }. TERM: ONE { * ONE }. ONE: a NUMBER, a NAME, - ONE, ( E ).", """
            fault "thinks 1+^;"
            fault "thinks 1+^+1;"
            fault "thinks ^+1;"
            fault "thinks ^*1;"
            fault "thinks 1*^*1;"
            fault "thinks 1 ^1;"
            fault "thinks 1^(1);"
            fault "thinks (^);"
            fault "thinks (1^;"
            fault "thinks 1^);"
            fault "thinks (1)^);"
            fault "thinks -^;"
            tape "thinks 1--1*-1;mends (((1)));claims 1-1-1;", text = 1
            """);
    }

    private static void opened() {
        edges.promise(6, "a ( , a not, a - ahead of a ONE while 5 of these are open", """
            tape "thinks (((((1)))));mends -----1;claims not not not not not 1;", text = 1
            fault "thinks (((((^(1))))));"
            fault "thinks -----^-1;"
            fault "thinks not not not not not ^not 1;"
            fault "thinks (((((^-1)))));"
            fault "thinks (((((^not 1)))));"
            """);
        edges.promise(6, "a ( , a not, a - ahead of a ONE while 5 of these are open", """
            fault "thinks -----^(1);"
            fault "thinks not not not not not ^(1);"
            fault "thinks not not not not not ^-1;"
            fault "thinks -(-(-^(1)));"
            fault "thinks not(-(-^-1));"
            tape "thinks not(-(-1));mends ((((-1))));claims not(not(not 1));", text = 1
            """);
    }

    private static void openedAmongOthers() {
        edges.promise(6, "(a ( till its ) , not and - till what they belong to ends)", """
            tape "thinks (((((1)))))+(((((2)))));mends -----1*-----2;claims 1;", text = 1
            tape "thinks not not not not not 1 and(((((1)))));mends 1;claims 1;", text = 2
            fault "thinks not not not not not 1+^(1);"
            fault "thinks not not not not not 1<^-1;"
            fault "thinks not not not not not 1*2-^-3;"
            fault "thinks (((((1)+(1))+1)+1)+1^;"
            """);
        edges.promise(6, "(a ( till its ) , not and - till what they belong to ends)", """
            tape "thinks ((((1)+(2))+(3))+(4))+(((((5)))));mends -(((1)))+-((((1))));claims 1--1--1--1--1--1--1;", text = 1
            fault "thinks (((((1+^(2))))));"
            fault "thinks (((((1 or ^not 2)))));"
            fault "thinks -(((1+-^(2))));"
            """);
        edges.promise(6, "not and - till what they belong to ends", """
            tape "thinks -----1-----1;mends not not not not not 1 or not not not not not 1;claims ----(1)+(((((1)))));", text = 1
            tape "thinks not not not not -1*-1+-1<-1;mends -1*((((-1))));claims 1;", text = 2
            """);
    }

    private static void openedAnew() {
        edges.promise(6, "while 5 of these are open", """
            fault "thinks (((((^;"
            tape "thinks (((((1)))));mends -----1;claims 1;", text = 1
            fault "thinks -----^;"
            tape "thinks not not not not not 1;mends 1;claims 1;", text = 2
            fault "thinks 1;mends (((((1^;"
            fault "thinks (((((1)))));mends (((((1)))));claims (((((^(1"
            """);
    }

    private static void wraps() {
        edges.promise(6, "An E is an int (32 bits, wrapping)", """
            person 0 0 = 0
            rule "thinks 2048*2048*512;mends 2048*2048*512-1;claims 0;"
            told 0 20 = -99, told 0 30 = 99
            rule "thinks 2048*2048*512-1;mends 2048*2048*512;claims 0;"
            told 0 20 = 99, told 0 30 = 0
            rule "thinks 4096*4096*256;mends 4096*4096*256+7;claims 0;"
            told 0 20 = 0, told 0 30 = 7
            rule "thinks -(2048*2048*512);mends -(2048*2048*512)-1;claims 0;"
            told 0 20 = -99, told 0 30 = 99""");
        edges.promise(6, "An E is an int (32 bits, wrapping)", """
            person 0 0 = 0
            rule "thinks (2048*2048*512-1)+1;mends (0-2048*2048*512)-1;claims 0;"
            told 0 20 = -99, told 0 30 = 99
            rule "thinks 9999*9999*22;mends (2048*2048*512-1)*2+9;claims 0;"
            told 0 20 = -99, told 0 30 = 7
            rule "thinks 2048*2048*512<2048*2048*512-1;mends 2048*2048*512-1<2048*2048*512;claims 0;"
            told 0 20 = 1, told 0 30 = 0""");
        edges.promise(6, "An E is an int (32 bits, wrapping)", """
            person 0 0 = 0, set 1 0 999 = 0, set 0 0 99 = 0
            rule "thinks 0;mends 0;claims years*9999*9999;"
            told 0 10 = 99
            rule "thinks 0;mends 0;claims years*4096*4096*256+years;"
            told 0 10 = 99
            rule "thinks 0;mends 0;claims 2048*2048*512+years;"
            told 0 10 = 0
            rule "thinks 0;mends 0;claims 2048*2048*512-years;"
            told 0 10 = 99""");
    }

    private static void truth() {
        edges.promise(6, "of or, and, not, <, = 1 or 0 (what is not 0 is true)", """
            person 0 0 = 0
            rule "thinks 0 or -1;mends 7 and 2048*2048*512;claims 0;"
            told 0 20 = 1, told 0 30 = 1
            rule "thinks not -1;mends not not 9;claims 0;"
            told 0 20 = 0, told 0 30 = 1
            rule "thinks 0 or 0;mends 5 and 0;claims 0;"
            told 0 20 = 0, told 0 30 = 0
            rule "thinks 3<3;mends 3=3;claims 0;"
            told 0 20 = 0, told 0 30 = 1""");
        edges.promise(6, "of or, and, not, <, = 1 or 0 (what is not 0 is true)", """
            person 0 0 = 0
            rule "thinks not 0;mends not 4096*4096*256;claims 0;"
            told 0 20 = 1, told 0 30 = 1
            rule "thinks -1<0;mends 0<-1;claims 0;"
            told 0 20 = 1, told 0 30 = 0
            rule "thinks 3=4;mends 0 and 0 or 9;claims 0;"
            told 0 20 = 0, told 0 30 = 1
            rule "thinks 4 and 2;mends 4 or 2;claims 0;"
            told 0 20 = 1, told 0 30 = 1""");
        edges.promise(6, "of or, and, not, <, = 1 or 0 (what is not 0 is true)", """
            person 0 0 = 0
            rule "thinks 1 and 1;mends 1 or 1;claims 0;"
            told 0 20 = 1, told 0 30 = 1
            rule "thinks 0 and 1;mends 0 or 1;claims 0;"
            told 0 20 = 0, told 0 30 = 1
            rule "thinks 1 and 0;mends 1 or 0;claims 0;"
            told 0 20 = 0, told 0 30 = 1
            rule "thinks not 1;mends 0=0;claims 0;"
            told 0 20 = 0, told 0 30 = 1""");
    }

    private static void force() {
        edges.promise(7, "A TEXT is THE RULE: which was. BAD.", """
            !force -1 = -2, !force 1 = -2, !force MIN = -2, !force MAX = -2, force 0 = 0, count 5 = 0
            tape "thinks 7;mends 0;claims 0;", text = 1, count 5 = 0, !force 2 = -2, person 0 0 = 0, told 0 20 = 0, force 1 = 0
            told 0 20 = 7, force 1 = 1, !force 2 = -2, !force -1 = -2, count 5 = 1, force 0 = 1, told 0 20 = 0, count 5 = 0""");
        edges.promise(7, "There are 6 TEXTS at most, TEXT 0 with them.", """
            tape "thinks 1;mends 0;claims 0;", text = 1, tape "thinks 2;mends 0;claims 0;", text = 2
            tape "thinks 3;mends 0;claims 0;", text = 3, tape "thinks 4;mends 0;claims 0;", text = 4
            tape "thinks 5;mends 0;claims 0;", !force 5 = -2, text = 5, force 5 = 0, !force 6 = -2, !force 7 = -2
            person 0 0 = 0, told 0 20 = 5""");
        edges.promise(7, "A TEXT is THE RULE: which was.", """
            fault "thinks 1;mends 2;claims 3^", !force 1 = -2, count 5 = 0""");
    }
}
