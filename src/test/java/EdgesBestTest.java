import java.io.IOException;

/** The edges of promises 12 to 17: what would be best. */
public final class EdgesBestTest {
    private static Edges edges;

    public static void main(String[] args) throws IOException {
        edges = new Edges("EdgesBestTest");
        cheapest();
        cheapestOfLikeOnes();
        cheapestLeavesMended();
        most();
        mostOfLikeOnes();
        haze();
        premium();
        premiumIsBound();
        best();
        alone();
        agree();
        edges.end(12, 17);
    }

    private static void cheapest() {
        edges.promise(12, "m (0 .. 6) or more PEOPLE would be HAZY", """
            !cheapest -1 0 = -2, !cheapest 7 0 = -2, !cheapest MIN 0 = -2, !cheapest MAX 1 = -2, cheapest 0 0 = 0, cheapest 0 1 = 0
            cheapest 1 0 = -1, cheapest 1 1 = -1, cheapest 6 0 = -1, 6* person 0 0 = 5, cheapest 6 0 = 0, cheapest 6 1 = 0
            set 1 0 9 = 0, cheapest 6 0 = 1, cheapest 6 1 = 60, cheapest 1 0 = 1, cheapest 0 0 = 0""");
        edges.promise(12, "CHEAPEST (what 0; bits; NONE), its COST (1; NONE). BAD.", """
            !cheapest 0 -1 = -2, !cheapest 0 2 = -2, !cheapest 6 MIN = -2, !cheapest 6 MAX = -2, !cheapest 7 2 = -2, person 0 0 = 0
            set 1 0 72 = 0, cheapest 1 0 = 255, cheapest 1 1 = 80, set 1 0 73 = 72, cheapest 1 0 = -1, cheapest 1 1 = -1
            cheapest 0 0 = 0, cheapest 0 1 = 0, cheapest 2 0 = -1""");
        edges.promise(12, "m (0 .. 6) or more PEOPLE would be HAZY", """
            weathers 9 0 -9
            person 0 0 = 0, person 1 0 = 1, person 2 2 = 2, set 1 0 1 = 0, cheapest 1 0 = 0, cheapest 2 0 = 1, cheapest 2 1 = 2
            cheapest 3 0 = -1, set 1 0 0 = 1, cheapest 2 0 = 0, cheapest 3 0 = 4, cheapest 3 1 = 29""");
        edges.promise(12, "HAZY: MEMORY is LIMIT or more.", """
            person 0 0 = 0, set 1 0 0 = 0, cheapest 1 0 = 0, set 1 0 1 = 0, cheapest 1 0 = 1, set 1 0 9 = 1, cheapest 1 0 = 1
            set 1 0 10 = 9, cheapest 1 0 = 3, cheapest 1 1 = 20, set 1 0 -999 = 10, cheapest 1 0 = 0""");
    }

    private static void cheapestOfLikeOnes() {
        edges.promise(12, "that of least COST, together (each as it is now); of like ones the least as bits; NONE.", """
            person 0 0 = 0, set 1 0 9 = 0, cheapest 1 0 = 1, set 3 7 1 = 0, cheapest 1 0 = 128, cheapest 1 1 = 9
            set 3 6 1 = 0, set 1 0 11 = 9, cheapest 1 0 = 64, set 1 0 20 = 11, cheapest 1 0 = 192, cheapest 1 1 = 18""");
        edges.promise(12, "of like ones the least as bits", """
            rule "thinks mended*9;mends 0;claims 0;"
            person 0 0 = 0, set 1 0 9 = 0, cheapest 1 0 = 1, cheapest 1 1 = 0, set 1 0 18 = 9, cheapest 1 0 = 3
            rule "thinks mended*(hour+1);mends hour+1;claims 0;"
            set 1 0 6 = 18, cheapest 1 0 = 7, cheapest 1 1 = 6, set 4 0 1 = 0, set 1 0 7 = 6, cheapest 1 0 = 10, cheapest 1 1 = 6""");
        edges.promise(12, "(each as it is now)", """
            rule "thinks mended;mends 5+mended*20;claims 0;"
            person 0 0 = 0, set 1 0 2 = 0, cheapest 1 1 = 10, set 4 0 1 = 0, cheapest 1 0 = 2, cheapest 1 1 = 5""");
    }

    private static void cheapestLeavesMended() {
        edges.promise(12, "of all sets of HOURS that aren't MENDED (bits), by whose being so, too", """
            person 0 0 = 0, set 4 0 1 = 0, set 1 0 9 = 0, cheapest 1 0 = 0, set 1 0 10 = 9, cheapest 1 0 = 2, set 1 0 72 = 10
            cheapest 1 0 = 254, cheapest 1 1 = 70, set 4 7 1 = 0, cheapest 1 0 = 126, set 4 1 1 = 0, set 4 2 1 = 0, set 4 3 1 = 0
            set 4 4 1 = 0, set 4 5 1 = 0, cheapest 1 0 = 64, set 4 6 1 = 0, cheapest 1 0 = 0, set 1 0 73 = 72, cheapest 1 0 = -1
            count 1 = 8""");
    }

    private static void most() {
        edges.promise(13, "MOST (a purse x 0 .. 999)", """
            !most -1 0 = -2, !most 1000 0 = -2, !most MIN 0 = -2, !most MAX 0 = -2, most 0 0 = 0, most 999 0 = 0, most 0 1 = 0, most 0 2 = 0
            rule "thinks mended*99;mends 99;claims 0;"
            6* person 0 0 = 5, set 1 0 99 = 0, most 593 1 = 0, most 594 1 = 6, most 594 0 = 1, most 594 2 = 594, most 999 2 = 594
            set 1 0 198 = 99, most 999 1 = 0, most 999 0 = 0""");
        edges.promise(13, "MOST (what 0; bits), how many are HAZY then (1), its COST (2). BAD.", """
            !most 0 -1 = -2, !most 0 3 = -2, !most 999 MIN = -2, !most 999 MAX = -2, !most 1000 3 = -2, person 0 0 = 0
            most 0 0 = 0, most 0 1 = 1, most 0 2 = 0""");
        edges.promise(13, "whose COST is x or less", """
            person 0 0 = 0, set 1 0 9 = 0, most 9 0 = 0, most 9 1 = 0, most 9 2 = 0, most 10 0 = 1, most 10 1 = 1, most 10 2 = 10
            most 11 0 = 1, set 3 3 9 = 0, set 1 0 18 = 9, most 0 1 = 0, most 1 0 = 8, most 1 2 = 1, set 3 3 0 = 9, most 19 0 = 0
            most 20 0 = 3, most 20 1 = 1, told 0 2 = 100, count 1 = 0""");
    }

    private static void mostOfLikeOnes() {
        edges.promise(13, "of like ones the cheapest, then the least as bits", """
            person 0 0 = 0, set 1 0 9 = 0, most 999 0 = 1, set 3 6 1 = 0, most 999 0 = 64, most 9 0 = 64, most 999 2 = 9, most 8 0 = 0
            set 3 7 1 = 0, set 1 0 2 = 9, most 999 0 = 0, set 1 0 3 = 2, most 999 0 = 64""");
        edges.promise(13, "of like ones the cheapest, then the least as bits", """
            rule "thinks mended*9;mends 0;claims 0;"
            person 0 0 = 0, set 1 0 9 = 0, most 0 0 = 1, set 4 0 1 = 0, most 0 0 = 0, set 1 0 18 = 9, most 0 0 = 2, most 0 2 = 0
            set 1 0 73 = 18, most 0 0 = 0, most 0 1 = 0""");
        edges.promise(13, "the set by which most would be HAZY", """
            weathers 9 0 -9
            person 0 0 = 0, person 1 0 = 1, person 2 2 = 2, most 999 0 = 4, most 999 1 = 3, most 28 1 = 2, most 29 1 = 3
            rule "thinks -mended;mends 0;claims 0;"
            most 999 0 = 0, most 999 1 = 3""");
    }

    private static void haze() {
        edges.promise(14, "BAD; NONE.", """
            !haze 0 = -2, !haze -1 = -2, person 0 0 = 0, haze 0 = 0, !haze 1 = -2, !haze -1 = -2, !haze MIN = -2, !haze MAX = -2
            set 1 0 1 = 0, haze 0 = -1, 5* person 5 0 = 5, haze 5 = -1, !haze 6 = -2""");
        edges.promise(14, "HAZE (one): behind how many YEARS (0 .. 40 more) one is HAZY first; NONE.", """
            rule "thinks years;mends 0;claims 0;"
            person 0 0 = 0, haze 0 = 0, set 1 0 1 = 0, haze 0 = 1, set 1 0 8 = 1, haze 0 = 1, set 1 0 9 = 8, haze 0 = 2
            set 1 0 320 = 9, haze 0 = 40, set 1 0 321 = 320, haze 0 = -1, set 0 0 1 = 0, haze 0 = 40, set 1 0 329 = 321, haze 0 = -1
            told 0 0 = 1""");
        edges.promise(14, "behind how many YEARS (0 .. 40 more) one is HAZY first", """
            rule "thinks (years=120)+(years=139)*2+(years=140)*3;mends 0;claims 0;"
            person 0 0 = 0, set 0 0 99 = 0, set 1 0 8 = 0, haze 0 = 21, set 1 0 16 = 8, haze 0 = 40, set 1 0 17 = 16, haze 0 = -1
            person 3 9 = 1, set 0 0 0 = 99, set 1 0 0 = 17, haze 1 = 9, set 0 0 8 = 0, haze 1 = 1, set 0 0 9 = 8, haze 1 = 0""");
    }

    private static void premium() {
        edges.promise(15, "PURSE is never below 0 behind any of 10 YEARS; NONE.", """
            premium = 0, set 2 0 0 = 100, premium = 0, set 2 0 -1 = 0, premium = -1, set 2 0 -99999 = -1, premium = -1, person 5 0 = 0
            set 2 0 0 = -99999, premium = 0, set 2 0 -1 = 0, premium = 1, set 2 0 -99 = -1, premium = 99, set 2 0 -100 = -99, premium = -1
            5* person 5 0 = 5, premium = 17, set 2 0 -594 = -100, premium = 99, set 2 0 -595 = -594, premium = -1""");
        edges.promise(15, "behind any of 10 YEARS", """
            rule "thinks 0;mends 0;claims (years=0)*20+(years=9)*50+(years=10)*99;"
            set 1 0 1 = 0, person 0 0 = 0, set 2 0 70 = 100, premium = 0, set 2 0 69 = 70, premium = 1, set 2 0 20 = 69, premium = 5
            set 2 0 19 = 20, premium = 6, set 2 0 10 = 19, premium = 10, set 2 0 0 = 10, premium = 20, set 2 0 -1 = 0, premium = 21
            set 0 0 1 = 0, set 2 0 0 = -1, premium = 15, told 0 0 = 1""");
        edges.promise(15, "behind any of 10 YEARS", """
            rule "thinks 0;mends 0;claims (years=105)*50+(years=108)*99+(years=109)*99;"
            set 1 0 1 = 0, set 0 0 99 = 0, person 0 0 = 0, set 2 0 0 = 100, premium = 15, set 2 0 98 = 0, premium = 6, told 0 0 = 99
            set 2 0 149 = 98, premium = 0, set 2 0 148 = 149, premium = 1""");
        edges.promise(15, "the least that each would have to PAY, all the same (0 .. 99)", """
            rule "thinks 0;mends 0;claims 99;"
            set 1 0 1 = 0, person 0 0 = 0, set 6 0 98 = 5, set 2 0 0 = 100, premium = 99, set 2 0 9 = 0, premium = 99
            set 2 0 10 = 9, premium = 98, set 2 0 -1 = 10, premium = -1, person 5 0 = 1, set 6 1 0 = 5, set 2 0 0 = -1, premium = 50
            told 0 6 = 98, told 1 6 = 0""");
    }

    private static void premiumIsBound() {
        edges.promise(15, "so that PURSE is never below 0 behind any of 10 YEARS", """
            set 1 0 1 = 0, set 0 0 95 = 0, person 0 0 = 0, set 2 0 990 = 100, premium = 0, set 2 0 989 = 990, premium = 1, set 2 0 99999 = 989
            premium = 0, told 0 0 = 95, told 0 2 = 99999""");
        edges.promise(15, "A YEAR, truly: PURSE is more by PREMIUMS of all, then less by DUE, told ahead", """
            person 3 9 = 0, set 2 0 432 = 100, premium = 0, set 2 0 431 = 432, premium = 1, run 9 0 = 44, run 10 0 = 49""");
    }

    private static void best() {
        edges.promise(16, "-1000000: one, what.", """
            !best 0 0 = no, !best -1 0 = no, person 0 0 = 0, best 0 0 = 0, best 0 1 = 0, best 0 2 = 0, !best 0 -1 = no, !best 0 3 = no
            !best 0 MIN = no, !best 0 MAX = no, !best 1 0 = no, !best -1 0 = no, !best MIN 0 = no, !best MAX 2 = no, !best 1 3 = no
            5* person 0 0 = 5, best 5 2 = 0, !best 6 2 = no""");
        edges.promise(16, "BEST HOUR (one): that of which one THINKS most; of like ones the first.", """
            person 0 0 = 0, best 0 0 = 0, set 3 7 1 = 0, best 0 0 = 7, best 0 1 = 1, set 3 6 1 = 0, best 0 0 = 6, set 3 0 1 = 0, best 0 0 = 0
            weathers -9 -9 -9 -9 -9 -9 -9 -9
            best 0 0 = 0, best 0 1 = -9, set 3 7 -8 = -9, best 0 0 = 7, best 0 1 = -8, set 3 3 -8 = -9, best 0 0 = 3
            person 1 0 = 1, best 1 0 = 0, best 1 1 = 0, set 3 1 -7 = -9, best 0 0 = 1, set 3 2 -7 = -9, best 0 0 = 1, set 3 2 -6 = -7
            best 0 0 = 2""");
    }

    private static void alone() {
        edges.promise(16, "ALONE (one): HOURS (bits) of which one THINKS more than 0, and nobody else does.", """
            weathers 1 0 -1 0 0 0 -9 9
            person 0 0 = 0, best 0 2 = 129, person 2 0 = 1, best 0 2 = 128, best 1 2 = 0, set 5 1 7 = 0, best 0 2 = 1, set 5 1 6 = 7
            best 0 2 = 129, best 1 2 = 0, person 5 0 = 2, best 0 2 = 0, best 2 2 = 68, person 3 0 = 3, best 2 2 = 68, best 3 2 = 0
            set 3 0 0 = 1, set 4 0 1 = 0, best 2 2 = 68, set 4 1 1 = 0, best 2 2 = 68""");
    }

    private static void agree() {
        edges.promise(17, "BAD: no such two, one and the same.", """
            !agree 0 0 = -2, !agree 0 1 = -2, !agree -1 -2 = -2, person 0 0 = 0, !agree 0 0 = -2, !agree 0 1 = -2, !agree 1 0 = -2
            person 0 0 = 1, agree 0 1 = 255, agree 1 0 = 255, !agree 1 1 = -2, !agree -1 0 = -2, !agree 0 -1 = -2, !agree 0 2 = -2
            !agree 2 0 = -2, !agree 2 2 = -2, !agree MIN 0 = -2, !agree 0 MAX = -2, !agree MAX MAX = -2, 4* person 0 0 = 5
            agree 0 5 = 255, agree 5 0 = 255, !agree 5 6 = -2, !agree 6 5 = -2""");
        edges.promise(17, "AGREE (two): HOURS (bits) of which both THINK alike.", """
            weathers -1 1 0 0 0 0 0 -9
            person 0 0 = 0, person 1 0 = 1, person 5 0 = 2, agree 0 1 = 126, agree 0 2 = 126, agree 1 2 = 126, set 3 0 0 = -1
            agree 0 1 = 127, set 3 7 0 = -9, agree 1 0 = 255, person 4 0 = 3, agree 0 3 = 125""");
    }
}
