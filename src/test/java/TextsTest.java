/** Promises 5 to 7: the tape, texts and THE RULE. */
public final class TextsTest {
    private static final Check check = new Check("TextsTest");

    public static void main(String[] args) {
        feeds();
        takesTexts();
        faults();
        everyByte();
        tapeIsReadToItsSize();
        opensAnew();
        opens();
        fullOfTexts();
        forces();
        values();
        namesOfEachPart();
        wraps();
        check.end();
    }

    private static void feeds() {
        RememberedAsSunny x = new RememberedAsSunny();
        int[] bad = {-1, 256, Integer.MIN_VALUE, Integer.MAX_VALUE};
        for (int letter : bad) {
            check.due("feed(" + letter + ")", x.feed(letter), -2);
        }
        check.due("count(4)", x.count(4), 0);
        check.due("feed(0)", x.feed(0), 1);
        check.due("feed(255)", x.feed(255), 2);
        for (int i = 3; i <= 160; i++) {
            check.due("feed, byte " + i, x.feed(32), i);
        }
        check.due("feed, byte 161", x.feed(32), -4);
        check.due("feed(256) of a full tape", x.feed(256), -2);
        check.due("count(4)", x.count(4), 160);
        check.due("text()", x.text(), -100);
        check.due("count(4)", x.count(4), 0);
        check.due("feed(32)", x.feed(32), 1);
    }

    private static int of(String text) {
        return Check.text(new RememberedAsSunny(), text);
    }

    private static void takesTexts() {
        String[] good = {
            "thinks 1;mends 2;claims 3;",
            "  \n thinks\n1 ; mends 2 ;claims 3 ; \n ",
            "thinks weather + mended * 9 ; mends 10 - weather ; claims 20 + years ;",
            "thinks hour or years and number or mended and last;mends weather;claims 0009;",
            "thinks not not not not not 1;mends 9999;claims 0;",
            "thinks -----1;mends((((( 1 )))));claims-(1)+(not -1<-2);",
            "thinks 1<2 and 2=3 or not 4<5;mends 1- -2;claims(1<2)<3;",
            "thinks 2- -3*-4+ -5;mends 1--2;claims not 1 and not 2 or(not 3);",
        };
        for (String text : good) {
            check.due(text, of(text), 1);
        }
        StringBuilder longest = new StringBuilder("thinks 1");
        while (longest.length() < 160 - " ;mends 2;claims 3;".length()) {
            longest.append("+1");
        }
        while (longest.length() < 160 - ";mends 2;claims 3;".length()) {
            longest.append(' ');
        }
        longest.append(";mends 2;claims 3;");
        check.due("its length", longest.length(), 160);
        RememberedAsSunny x = new RememberedAsSunny();
        check.due("of 160 bytes", Check.text(x, longest.toString()), 1);
        check.due("count(3)", x.count(3), 2);
        check.due("count(4)", x.count(4), 0);
        check.due("count(5)", x.count(5), 0);
    }

    /** The fault stands where the ^ is, which is not fed. */
    private static void faults() {
        String[] bad = {
            "^", "  ^", "^1", "^mends", "^weather", "^;", "thinks^", "thinks ^;", "thinks  ^", "thinks ^thinks",
            "thinks 1 ^2", "thinks 1^", "thinks 1 ^mends", "thinks 1;^", "thinks 1; ^thinks 2;", "thinks 1; ^claims 2;",
            "thinks 1;mends 2;claims 3^", "thinks 1;mends 2;claims 3;^;", "thinks 1;mends 2;claims 3; \n ^thinks",
            "thinks 1;mends 2;claims 3;^$", "thinks 1;mends 2;claims 3; ^12345", "thinks 1;mends 2;claims 3; ^a",
            "^thinksweather;", "^think 1;", "^thinkss 1;", "thinks ^sun;", "thinks ^weathers;", "thinks ^Weather;",
            "thinks 1 ^. 2", "thinks^\t1;", "thinks ^\r1;", "thinks 1 ^> 2;", "thinks ^\u00001;",
            "thinks ^12345;", "thinks ^00001;", "thinks 1 + ^12345678901234567890;", "thinks 1234^weather;",
            "thinks 1 ^12345;", "thinks 1234 ^5;", "thinks 1^weather;", "thinks weather ^weather;", "thinks weather^9;",
            "thinks 1 + ^+ 2;", "thinks ^+ 2;", "thinks ^* 2;", "thinks 1 * ^* 2;", "thinks 1 * - ^;", "thinks - ^* 2;",
            "thinks ^< 2;", "thinks 1 < 2 ^< 3;", "thinks 1 = 2 ^< 3;", "thinks 1 < 2 ^= 3;", "thinks 1 < ^= 3;",
            "thinks (1 < 2) < 3 ^< 4;", "thinks 1 < 2 and 3 < 4 ^< 5;", "thinks (1 < 2 ^= 3);", "thinks not 1 < 2 ^< 3;",
            "thinks 1 + ^not 2;", "thinks 1 < ^not 2;", "thinks - ^not 2;", "thinks 1 * ^not 2;", "thinks 1 ^not 2;",
            "thinks not ^;", "thinks not ^and 1;", "thinks 1 and ^and 2;", "thinks 1 or ^;", "thinks ^or 1;", "thinks 1 and ^or 2;",
            "thinks (^);", "thinks (1^;", "thinks (1 ^2);", "thinks ^)", "thinks 1^);", "thinks (1)^);", "thinks (1) ^(2);",
            "thinks 1;mends ^claims 3;", "thinks 1;mends 2 ^claims 3;", "thinks ((1)^;", "thinks ^mends 2;", "thinks not1;^",
            "thinks ^notweather;", "thinks 1 ^orr 2;", "thinks 1 or2 ^3;", "^xhinks 1;",
            "thinks ^teather;", "thinks 1 ^dr 2;", "thinks ^weatherz;", "thinks ^z;", "thinks ^a;", "thinks 1;mends ^weathes;",
            "thinks (^foo 1);mends 1;claims 1;", "thinks not ^foo 1;mends 1;claims 1;", "thinks - ^foo 1;mends 1;claims 1;",
            "thinks (^12345 1);mends 1;claims 1;", "thinks not ^12345 1;mends 1;claims 1;", "thinks 1 + ^foo + 2;mends 1;claims 1;",
            "thinks 1 * ^00000 * 2;mends 1;claims 1;", "thinks 1;mends 2;claims 3; ^foo", "thinks 1;^foo mends 2;claims 3;",
        };
        for (String marked : bad) {
            int place = marked.indexOf('^');
            String text = marked.substring(0, place) + marked.substring(place + 1);
            RememberedAsSunny x = new RememberedAsSunny();
            check.due("text() of " + marked, Check.text(x, text), -100 - place);
            check.due("count(4) behind it", x.count(4), 0);
            check.due("count(3) behind it", x.count(3), 1);
        }
    }

    /** Where a ONE is due a byte is a fault, but for those that begin one; behind one, but for those that go on. */
    private static void everyByte() {
        for (int c = 0; c < 256; c++) {
            RememberedAsSunny x = new RememberedAsSunny();
            Check.feed(x, "thinks ");
            x.feed(c);
            Check.feed(x, " 1;");
            boolean through = c == ' ' || c == '\n' || c == '-';
            int want = through ? -111 : c == '(' ? -110 : c >= '0' && c <= '9' ? -109 : -107;
            check.due("the byte " + c + " where a ONE is due", x.text(), want);
            Check.feed(x, "thinks 1");
            x.feed(c);
            boolean blank = c == ' ' || c == '\n';
            boolean sign = "+-*<=".indexOf(c) >= 0;
            want = blank || sign || c >= '0' && c <= '9' || c == ';' ? -109 : -108;
            check.due("the byte " + c + " behind a ONE", x.text(), want);
            Check.feed(x, "thinks 1;mends 2;claims 3;");
            x.feed(c);
            check.due("the byte " + c + " behind a text", x.text(), blank ? 1 : -126);
        }
    }

    private static void tapeIsReadToItsSize() {
        RememberedAsSunny x = new RememberedAsSunny();
        for (int i = 0; i < 160; i++) {
            x.feed('z');
        }
        check.due("160 letters", x.text(), -100);
        for (int i = 0; i < 160; i++) {
            x.feed('9');
        }
        check.due("160 digits", x.text(), -100);
        check.due("what stood there before", Check.text(x, "thinks 1;mends 2;claims 3"), -125);
        check.due("what stood there before", Check.text(x, "thinks weathers"), -107);
        check.due("what stood there before", Check.text(x, "thinks weather"), -114);
        check.due("what stood there before", Check.text(x, "thinks 1;mends 2;claims 3; \n "), 1);
        check.due("what stood there before", Check.text(x, "thinks 1;mends 2;claims 3;"), 2);
        check.due("what stood there before", Check.text(x, "thinks 1;mends 2;claims 3"), -125);
        for (int i = 0; i < 160; i++) {
            x.feed(' ');
        }
        check.due("160 blanks", x.text(), -260);
        Check.feed(x, "thinks 1;mends 2;claims ");
        for (int i = 24; i < 157; i++) {
            x.feed(' ');
        }
        check.due("a 160th byte", Check.text(x, "99;"), 3);
    }

    /** What a fault left open is not open in the next text. */
    private static void opensAnew() {
        String[] faulty = {"thinks (((((;", "thinks -----;", "thinks not not not not not;", "thinks ((((((1", "thinks not(-(-"};
        for (String fault : faulty) {
            RememberedAsSunny x = new RememberedAsSunny();
            check.that(fault, Check.text(x, fault) < -100);
            check.due("behind " + fault, Check.text(x, "thinks (((((1)))));mends -----1;claims not not not not not 1;"), 1);
        }
    }

    private static void opens() {
        String[] good = {
            "(((((1)))))", "-----1", "not not not not not 1", "not(-(-1))", "-(-(-1))", "((((-1))))", "((((not 1))))",
            "(((((1)))))+(((((2)))))", "-----1+-----2", "(((((1))))) and not not not not not 2 or -----3",
            "not not not not(1)", "((((1))))*-----1", "not - ( - ( 1 ) )", "not 1 and(((((2)))))", "not not not not -1+-2*-3",
            "((((1)+(2))-(3))*(4))=5",
        };
        for (String e : good) {
            check.due(e, of("thinks " + e + ";mends 1;claims 1;"), 1);
            check.due(e, of("thinks 1;mends 1;claims " + e + ";"), 1);
        }
        String[] bad = {
            "(((((^(1))))))", "-----^-1", "not not not not not ^not 1", "not not not not not ^(1)", "not not not not not ^-1",
            "-(-(-^(1)))", "(((((^-1)))))", "(((((^not 1)))))", "(((((1+^(2))))))", "not not not not not 1+^-2",
            "not not not not not 1<2+^(3)", "-----^(1)", "1-(((((^-1)))))", "1+-----^-2", "(((((1 or ^not 2)))))",
            "not not not(-1+(2+^-3))", "not not not -(^-(1)+2)",
        };
        for (String marked : bad) {
            int place = marked.indexOf('^');
            String e = marked.substring(0, place) + marked.substring(place + 1);
            check.due(marked, of("thinks " + e + ";mends 1;claims 1;"), -107 - place);
        }
    }

    private static void fullOfTexts() {
        RememberedAsSunny x = new RememberedAsSunny();
        for (int text = 1; text <= 5; text++) {
            check.due("count(3)", x.count(3), text);
            check.due("a fault", Check.text(x, "thinks ;"), -107);
            check.due("text " + text, Check.text(x, "thinks " + text + ";mends 1;claims 1;"), text);
        }
        check.due("text() of nothing", x.text(), -4);
        Check.feed(x, "thinks 6;$");
        check.due("text() of a fault", x.text(), -4);
        check.due("the tape stays", x.count(4), 10);
        check.due("count(3)", x.count(3), 6);
        x.person(0, 0);
        for (int text = 1; text <= 5; text++) {
            x.force(text);
            check.due("by text " + text, x.told(0, 20), text);
        }
    }

    private static void forces() {
        RememberedAsSunny x = new RememberedAsSunny();
        check.due("force(1)", x.force(1), -2);
        check.due("force(-1)", x.force(-1), -2);
        check.due("force(0)", x.force(0), 0);
        Check.text(x, "thinks 7;mends 8;claims 9;");
        check.due("a new text is no rule", x.count(5), 0);
        check.due("force(1)", x.force(1), 0);
        check.due("force(2)", x.force(2), -2);
        check.due("force(MAX)", x.force(Integer.MAX_VALUE), -2);
        x.person(0, 0);
        check.due("thinks", x.told(0, 20), 7);
        check.due("mends", x.told(0, 30), 8);
        x.set(1, 0, 999);
        check.due("claims", x.told(0, 10), 9);
        check.due("count(5)", x.count(5), 1);
        check.due("force(0)", x.force(0), 1);
        check.due("thinks", x.told(0, 20), 0);
    }

    private static void value(String e, int want) {
        RememberedAsSunny x = new RememberedAsSunny();
        Check.thinking(x, e);
        x.person(0, 4);
        x.set(0, 0, 3);
        Check.weathers(x, 1, -6, 5, 2, 0, 0, 0, 8);
        x.set(4, 2, 1);
        check.due(e, x.told(0, 22), want);
    }

    private static void values() {
        value("weather", 5);
        value("hour", 2);
        value("years", 3);
        value("number", 4);
        value("mended", 1);
        value("last", -6);
        value("2+3*4", 14);
        value("(2+3)*4", 20);
        value("20-3-4", 13);
        value("20-3+4", 21);
        value("2*3*4", 24);
        value("-2*3+1", -5);
        value("--7", 7);
        value("1--7", 8);
        value("-(2+3)", -5);
        value("not 0", 1);
        value("not 7", 0);
        value("not not 7", 1);
        value("not 1<0", 1);
        value("not 0+1", 0);
        value("(not 0)+1", 2);
        value("3<4", 1);
        value("4<3", 0);
        value("4<4", 0);
        value("-1<0", 1);
        value("4=4", 1);
        value("4=5", 0);
        value("1+2=3", 1);
        value("1<2*3-5", 0);
        value("(3<2)=0", 1);
        value("5 and 7", 1);
        value("5 and 0", 0);
        value("0 and 5", 0);
        value("0 or 7", 1);
        value("7 or 0", 1);
        value("0 or 0", 0);
        value("1 or 0 and 0", 1);
        value("(1 or 0) and 0", 0);
        value("0 and 0 or 1", 1);
        value("0 or 1 and not 1=2", 1);
        value("7 or 8 or 9", 1);
        value("not 1 and 0", 0);
        value("not(1 and 0)", 1);
        value("0042", 42);
        value("9999", 99);
        value("0-9999", -99);
        value("100", 99);
        value("-100", -99);
        value("(2=2)=0", 0);
    }

    /** A claim knows of no hour; of HOUR 0 last is 0. */
    private static void namesOfEachPart() {
        RememberedAsSunny x = new RememberedAsSunny();
        int text = Check.text(x, "thinks last;mends last+hour*10+mended;claims weather+hour+mended+last+number*10+years;");
        x.force(text);
        Check.weathers(x, 7, 8, 9, 1, 2, 3, 4, 5);
        for (int hour = 0; hour < 8; hour++) {
            x.set(4, hour, hour % 2);
        }
        x.set(0, 0, 6);
        x.set(1, 0, 999);
        x.person(0, 3);
        int[] last = {0, 7, 8, 9, 1, 2, 3, 4};
        for (int hour = 0; hour < 8; hour++) {
            check.due("last", x.told(0, 20 + hour), last[hour]);
            check.due("mends", x.told(0, 30 + hour), last[hour] + hour * 10 + hour % 2);
        }
        check.due("claims", x.told(0, 10), 36);
        x.force(Check.text(x, "thinks years+number*10;mends years*2+number*20;claims 0;"));
        x.person(0, 1);
        check.due("thinks", x.told(0, 20), 36);
        check.due("thinks of another", x.told(1, 20), 16);
        check.due("mends", x.told(0, 30), 72);
        check.due("mends of another", x.told(1, 30), 32);
        check.due("COST of both", x.told(4, 11), 104);
        text = Check.text(x, "thinks 0;mends 0-5;claims 0-5;");
        x.force(text);
        check.due("mends, bound", x.told(0, 30), 0);
        check.due("claims, bound", x.told(0, 10), 0);
        text = Check.text(x, "thinks 0;mends 100;claims 100;");
        x.force(text);
        check.due("mends, bound", x.told(0, 30), 99);
        check.due("claims, bound", x.told(0, 10), 99);
    }

    private static void wraps() {
        value("9999*9999*43", 9999 * 9999 * 43 < 0 ? -99 : 99);
        value("2048*2048*512", -99);
        value("2048*2048*1024", 0);
        value("2048*2048*512-1", 99);
        value("2048*2048*512<0", 1);
        value("-(2048*2048*512)=2048*2048*512", 1);
        value("2048*2048*1024+5", 5);
    }
}
