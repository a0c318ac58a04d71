/** Bounds of part IV: EVEN, ODD, shape, same, SHIFT, late; of part VI: OTHER, ROUND. */
public final class SignBoundsTest {
    private static final int NOTHING = -100000;

    private SignBoundsTest() {
    }

    public static void main(String[] args) {
        evenAlone();
        oddAlone();
        evenAndOdd();
        shapes();
        shapeWithoutMiddleOrEdges();
        same();
        sameOfAll();
        shiftsOfThree();
        shiftsOfFour();
        shiftsAlike();
        shiftsExactly();
        shiftsOverTheEnds();
        shiftOfK();
        firstAndLastDips();
        nothingFound();
        lateOfOne();
        lateAtMost();
        others();
        rounds();
        roundOfOne();
        Check.end();
    }

    private static void put(DimStars x, int star, int from, int... numbers) {
        for (int i = 0; i < numbers.length; i++) {
            x.row(star, from + i, numbers[i]);
        }
    }

    private static DimStars withSearch(String search) {
        DimStars x = new DimStars();
        x.star(1, 0, 1);
        Check.due(search, Check.search(x, search), 0);
        return x;
    }

    private static void signs(String name, DimStars x, int even, int odd, int gap) {
        Check.due(name + ": EVEN", x.sign(0, 0, 0), even);
        Check.due(name + ": ODD", x.sign(0, 0, 1), odd);
        Check.due(name + ": odd", x.sign(0, 0, 2), gap);
    }

    private static void evenAlone() {
        DimStars x = withSearch("beat 20 20;long 1 1");
        put(x, 0, 3, 9, 9, 2, 9, 9);
        signs("k = 0 alone", x, 7, NOTHING, 0);
        x.row(0, 45, 3);
        signs("k = 0 and 2", x, 6, NOTHING, 0);
    }

    private static void oddAlone() {
        DimStars x = withSearch("beat 20 20;long 1 1");
        put(x, 0, 23, 9, 9, 2, 9, 9);
        Check.due("first", x.found(0, 0, 0, 2), 5);
        signs("k = 1 alone", x, NOTHING, 7, 0);
        // k = -1 is odd: first 19 of beat 20, HOURS 19, 20 and -1, 0
        DimStars y = withSearch("beat 20 20;long 2 2");
        put(y, 0, 0, 2, 9, 9, 9, 9, 9, 9, 9, 9, 9, 9, 9, 9, 9, 9, 9, 9, 9, 9);
        Check.due("first of k = -1", y.found(0, 0, 0, 2), 19);
        signs("k = -1 alone", y, NOTHING, 7, 0);
        y.row(0, 19, 4);
        signs("k = -1 and 0", y, 5, 7, 2);
    }

    private static void evenAndOdd() {
        DimStars x = withSearch("beat 20 20;long 1 1");
        put(x, 0, 3, 9, 9, 2, 9, 9);
        put(x, 0, 25, 0);
        signs("ODD is deeper", x, 7, 9, 2);
        put(x, 0, 5, 0);
        put(x, 0, 25, 2);
        signs("EVEN is deeper", x, 9, 7, 2);
        // each downwards by itself: IN 1 / 2 and 0, OUT 9: 8 and 9
        put(x, 0, 5, 0);
        put(x, 0, 45, 1);
        put(x, 0, 25, 0);
        signs("downwards", x, 8, 9, 1);
        // one that is not deep at all: 9 - 12
        put(x, 0, 5, 0);
        put(x, 0, 45, 0);
        put(x, 0, 25, 12);
        Check.due("still FOUND so", x.found(0, 0, 0, 2), 5);
        signs("ODD below 0", x, 9, -3, 12);
        // exactly 9, with more HOURS IN than OUT
        DimStars y = withSearch("beat 3 3;long 2 2");
        put(y, 0, 0, 0, 0, 9, 0, 0, 9, 0, 0, 9);
        signs("exactly", y, 9, 9, 0);
    }

    /** One DIP of so many HOURS: OUT 0, IN -1000 - i * i * 3 at the i-th of its HOURS. */
    private static void shapes() {
        int[] from = {0, 0, 1, 1, 1, 2, 2, 2, 3, 3};
        for (int longs = 1; longs <= 10; longs++) {
            DimStars x = withSearch("beat 50 50;long " + longs + " " + longs);
            Check.law(x, "bright 0");
            x.make(0, 0, 0, 0, 30);
            long middle = 0;
            long edges = 0;
            int inMiddle = 0;
            for (int i = 0; i < longs; i++) {
                x.row(0, 12 + i, -1000 - i * i * 3);
                boolean isMiddle = i >= from[longs - 1] && i <= longs - 1 - from[longs - 1];
                middle += isMiddle ? 1000 + i * i * 3 : 0;
                edges += isMiddle ? 0 : 1000 + i * i * 3;
                inMiddle += isMiddle ? 1 : 0;
            }
            long due = inMiddle == longs ? 0 : middle / inMiddle - edges / (longs - inMiddle);
            Check.due("first of long " + longs, x.found(0, 0, 0, 2), 12);
            Check.due("shape of long " + longs, x.sign(0, 0, 3), due);
        }
    }

    private static void shapeWithoutMiddleOrEdges() {
        DimStars x = withSearch("beat 50 50;long 3 3");
        put(x, 0, 10, 9, 9, 1, 3, 1, 9, 9);
        Check.due("middle 6 less edges 8", x.sign(0, 0, 3), -2);
        x.row(0, 13, NOTHING);
        Check.due("no middle", x.sign(0, 0, 3), 0);
        x.row(0, 13, 3);
        x.row(0, 12, NOTHING);
        Check.due("one edge is enough", x.sign(0, 0, 3), -2);
        x.row(0, 14, NOTHING);
        Check.due("first without edges", x.found(0, 0, 0, 2) <= 13, true);
        Check.due("one HOUR IN alone is a middle or an edge", x.sign(0, 0, 3), 0);
    }

    /** STARS with a low HOUR each: beat 10, first as told. */
    private static DimStars lowAt(int... firsts) {
        DimStars x = new DimStars();
        for (int star = 0; star < firsts.length; star++) {
            x.star(1, 0, 1);
            for (int hour = 0; hour < 20; hour++) {
                x.row(star, hour, hour % 10 == firsts[star] ? 0 : 9);
            }
        }
        return x;
    }

    private static void same() {
        DimStars x = lowAt(3, 3, 4, 3);
        // 2 HOURS IN, DEEP 9, SPREAD 81 * 36 / 400 = 7: SCORE 23
        Check.search(x, "beat 10 10;line 23");
        Check.search(x, "beat 10 10;line 24");
        Check.due("SCORE", x.found(0, 0, 0, 4), 23);
        int[] due = {2, 2, 0, 2};
        for (int star = 0; star < 4; star++) {
            Check.due("same of STAR " + star, x.sign(0, star, 4), due[star]);
            Check.due("none is SEEN", x.sign(1, star, 4), 0);
        }
        // another long, the same beat and first
        x.row(3, 4, 0);
        x.row(3, 14, 0);
        Check.due("long 2", x.found(0, 3, 0, 1), 2);
        Check.due("same with another long", x.sign(0, 0, 4), 2);
        x.row(3, 3, 9);
        x.row(3, 13, 9);
        Check.due("same with another first", x.sign(0, 0, 4), 1);
        Check.due("same of the other first", x.sign(0, 2, 4), 1);
    }

    private static void sameOfAll() {
        DimStars x = lowAt(5, 5, 5, 5, 5, 5, 5, 5, 5, 5, 5, 5);
        Check.search(x, "beat 10 10");
        Check.due("eleven others", x.sign(0, 0, 4), 11);
        Check.due("eleven others of the last", x.sign(0, 11, 4), 11);
        DimStars z = lowAt(3, 3, 4, 3);
        Check.search(z, "beat 10 10");
        Check.sorter(z, "world same");
        Check.due("same in a SORTER, asked first of all", z.weight(0, 0, 0, 0), 2);
        DimStars y = lowAt(5);
        Check.search(y, "beat 10 10");
        Check.due("no others", y.sign(0, 0, 4), 0);
    }

    /** DIPS at 5, 25, 45, 65 of 0 among 10, of which k = 1 (HOUR 25) is 5 and others near it are told. */
    private static DimStars near(int... pairs) {
        DimStars x = withSearch("beat 20 20;long 1 1");
        Check.law(x, "bright 0 if hour-hour/20*20=5;bright 10");
        x.make(0, 0, 0, 0, 79);
        x.row(0, 25, 5);
        for (int i = 0; i < pairs.length; i += 2) {
            x.row(0, 25 + pairs[i], pairs[i + 1]);
        }
        Check.due("first", x.found(0, 0, 0, 2), 5);
        Check.due("k = 0 is where it is", x.shift(0, 0, 0), 0);
        return x;
    }

    private static void shiftsOfThree() {
        for (int s = -3; s <= 3; s++) {
            if (s != 0) {
                DimStars x = near(s, 4);
                Check.due("4 at " + s, x.shift(0, 0, 1), s);
                Check.due("late", x.sign(0, 0, 5), Math.abs(s));
                Check.due("5 at " + s + " is alike", near(s, 5).shift(0, 0, 1), 0);
                Check.due("6 at " + s, near(s, 6).shift(0, 0, 1), 0);
            }
        }
    }

    private static void shiftsOfFour() {
        Check.due("-4 is too far", near(-4, 0).shift(0, 0, 1), 0);
        Check.due("4 is too far", near(4, 0).shift(0, 0, 1), 0);
        Check.due("-3 beside -4", near(-4, 0, -3, 4).shift(0, 0, 1), -3);
        Check.due("3 beside 4", near(4, 0, 3, 4).shift(0, 0, 1), 3);
    }

    private static void shiftsAlike() {
        Check.due("-1 and 1", near(-1, 4, 1, 4).shift(0, 0, 1), -1);
        Check.due("-2 and 2", near(-2, 4, 2, 4).shift(0, 0, 1), -2);
        Check.due("-3 and 3", near(-3, 4, 3, 4).shift(0, 0, 1), -3);
        Check.due("-2 and 1", near(-2, 4, 1, 4).shift(0, 0, 1), 1);
        Check.due("-1 and 2", near(-1, 4, 2, 4).shift(0, 0, 1), -1);
        Check.due("-3 and 2", near(-3, 4, 2, 4).shift(0, 0, 1), 2);
        Check.due("3 is deeper", near(-1, 4, 3, 3).shift(0, 0, 1), 3);
        Check.due("all seven", near(-3, 5, -2, 5, -1, 5, 1, 5, 2, 5, 3, 5).shift(0, 0, 1), 0);
        Check.due("all but itself", near(-3, 4, -2, 4, -1, 4, 1, 4, 2, 4, 3, 4).shift(0, 0, 1), -1);
    }

    /** Means are compared exactly: windows of two and of one number. */
    private static void shiftsExactly() {
        DimStars x = withSearch("beat 20 20;long 2 2");
        Check.law(x, "bright 0 if hour-hour/20*20=5;bright 0 if hour-hour/20*20=6;bright 10");
        x.make(0, 0, 0, 0, 79);
        // k = 1: s = 0: (4 + 5) / 2; s = 1: 5 and nothing: 5; s = 2: nothing and 4: 4
        put(x, 0, 25, 4, 5, NOTHING, 4, 10);
        Check.due("first", x.found(0, 0, 0, 2), 5);
        Check.due("4 alone is less than 9 / 2", x.shift(0, 0, 1), 2);
        put(x, 0, 25, 4, 4, NOTHING, 4, 10);
        Check.due("4 alone is alike", x.shift(0, 0, 1), 0);
        put(x, 0, 25, 4, 5, 4, 10, 10);
        // s = 0: 9 / 2; s = 1: 9 / 2
        Check.due("9 / 2 both", x.shift(0, 0, 1), 0);
        put(x, 0, 25, 4, 5, 3, 10, 10);
        Check.due("8 / 2 is less than 9 / 2", x.shift(0, 0, 1), 1);
        put(x, 0, 25, -4, -5, -5, 10, 10);
        Check.due("-10 / 2 is less than -9 / 2", x.shift(0, 0, 1), 1);
    }

    private static void shiftsOverTheEnds() {
        // first 1: k = 0 from HOUR 1 on: s = -1 has HOUR 0, s = -2 and -3 have none
        DimStars x = withSearch("beat 20 20;long 1 1");
        Check.law(x, "bright 0 if hour-hour/20*20=1;bright 10");
        x.make(0, 0, 0, 0, 599);
        x.row(0, 0, -1);
        Check.due("first", x.found(0, 0, 0, 2), 1);
        Check.due("HOUR 0 is lower", x.shift(0, 0, 0), -1);
        Check.due("the last DIP, HOUR 581", x.shift(0, 0, 29), 0);
        Check.due("behind the ROW", x.shift(0, 0, 30), -2);
        Check.due("from HOUR 601, s = -2 has HOUR 599", x.at(0, 599, 0), 10);
        Check.due("k = -1 from HOUR -19", x.shift(0, 0, -1), -100);
        Check.due("DIPS", x.found(0, 0, 0, 5), 30);
        // behind the ROW there is no DIP, so that it counts neither for late nor for OTHER
        Check.due("late", x.sign(0, 0, 5), 1);
        Check.due("OTHER", x.other(0, 0, 0), 1);
    }

    private static void shiftOfK() {
        DimStars x = withSearch("beat 2 2;long 1 1");
        Check.law(x, "bright hour-hour/2*2");
        x.make(0, 0, 0, 0, 599);
        Check.due("first", x.found(0, 0, 0, 2), 0);
        Check.due("k = -2", x.shift(0, 0, -2), -200);
        // from HOUR -2: s = 2 has HOUR 0, s = 3 has HOUR 1
        Check.due("k = -1", x.shift(0, 0, -1), 2);
        Check.due("k = 299", x.shift(0, 0, 299), 0);
        // from HOUR 600: s = -2 has HOUR 598
        Check.due("k = 300", x.shift(0, 0, 300), -2);
        Check.due("k = 301", x.shift(0, 0, 301), -200);
        DimStars y = near();
        Check.due("no numbers near k = 5", y.shift(0, 0, 5), -100);
        // HOUR 82, s = -3 from HOUR 85
        y.row(0, 82, 10);
        Check.due("one number 3 before k = 4", y.shift(0, 0, 4), -3);
        y.row(0, 82, NOTHING);
        Check.due("none", y.shift(0, 0, 4), -100);
        y.row(0, 81, 10);
        Check.due("one number 4 before k = 4", y.shift(0, 0, 4), -100);
    }

    /** DIPS -1 and, of beat 2, 299: the first and the last there may be. */
    private static void firstAndLastDips() {
        DimStars x = withSearch("beat 10 10;long 3 3");
        // first 9: k = -1 has HOURS 0 and 1, k = 0 has 9, 10, 11
        put(x, 0, 0, 3, 4, 9, 9, 9, 9, 9, 9, 9, 1, 1, 1, 9, 9, 9);
        Check.due("first", x.found(0, 0, 0, 2), 9);
        Check.due("k = -1: HOUR 0 alone", x.shift(0, 0, -1), -1);
        Check.due("k = 0", x.shift(0, 0, 0), 0);
        Check.due("late", x.sign(0, 0, 5), 1);
        Check.due("OTHER", x.other(0, 0, 0), 1);
        Check.due("ROUND", x.other(0, 0, 1), -1);
        put(x, 0, 0, 4);
        Check.due("k = -1: alike", x.shift(0, 0, -1), 0);
        Check.due("late of alike ones", x.sign(0, 0, 5), 0);
        Check.due("ROUND of -1 and 0", x.other(0, 0, 1), 1);
        DimStars y = withSearch("beat 2 2;long 1 1");
        Check.law(y, "bright 100*hour-hour/2*200");
        y.make(0, 0, 0, 0, 599);
        Check.due("HOURS of 0 and 100", y.at(0, 598, 0) * 1000 + y.at(0, 597, 0), 100);
        Check.due("late of all alike", y.sign(0, 0, 5), 0);
        Check.due("ROUND of all alike", y.other(0, 0, 1), 1);
        y.row(0, 599, -1);
        Check.due("first of beat 2", y.found(0, 0, 0, 2), 0);
        // 598 and 596 have HOUR 599 one and three behind them
        Check.due("k = 299", y.shift(0, 0, 299), 1);
        Check.due("k = 298", y.shift(0, 0, 298), 3);
        Check.due("k = 297", y.shift(0, 0, 297), 0);
        Check.due("late by the last ones", y.sign(0, 0, 5), 3);
        Check.due("OTHER of the last ones", y.other(0, 0, 0), 2);
        Check.due("ROUND of the last ones", y.other(0, 0, 1), -1);
    }

    private static void nothingFound() {
        DimStars x = withSearch("line 0");
        for (int what = 0; what < 6; what++) {
            Check.due("sign " + what, x.sign(0, 0, what), -200000);
        }
        Check.due("shift", x.shift(0, 0, 0), -200);
        Check.due("other", x.other(0, 0, 0), -2);
        Check.due("round", x.other(0, 0, 1), -2);
        Check.due("no such sign goes first", x.sign(0, 0, 6), -200000);
        Check.due("no such what goes first", x.other(0, 0, 2), -3);
        Check.due("no such k goes first", x.shift(0, 0, 301), -200);
    }

    private static void lateOfOne() {
        DimStars x = withSearch("beat 50 50;long 1 1");
        put(x, 0, 3, 9, 9, 2, 9, 9);
        Check.due("one DIP", x.found(0, 0, 0, 5), 1);
        Check.due("late of one", x.sign(0, 0, 5), 0);
        Check.due("OTHER of one", x.other(0, 0, 0), 0);
    }

    private static void lateAtMost() {
        DimStars x = near(-3, 4);
        Check.due("from -3 to 0", x.sign(0, 0, 5), 3);
        x.row(0, 45, 5);
        x.row(0, 48, 4);
        Check.due("still FOUND so", x.found(0, 0, 0, 2), 5);
        Check.due("from -3 to 3", x.sign(0, 0, 5), 6);
        Check.due("two of them", x.other(0, 0, 0), 2);
        // all come late alike: none less than another
        DimStars y = withSearch("beat 20 20;long 1 1");
        put(y, 0, 0, 9, 9, 9, 9, 9, 1, 0, 9, 9);
        put(y, 0, 20, 9, 9, 9, 9, 9, 1, 0, 9, 9);
        Check.due("the deepest HOUR is FOUND", y.found(0, 0, 0, 2), 6);
        Check.due("late", y.sign(0, 0, 5), 0);
    }

    private static void others() {
        Check.due("none", near().other(0, 0, 0), 0);
        Check.due("one late", near(1, 4).other(0, 0, 0), 1);
        Check.due("one soon", near(-1, 4).other(0, 0, 0), 1);
        DimStars x = near(1, 4);
        for (int k = 2; k < 4; k++) {
            x.row(0, 5 + 20 * k, 5);
            x.row(0, 6 + 20 * k, 4);
        }
        // IN 0, 5, 5, 5 is deeper than 10, 4, 4, 4
        Check.due("first", x.found(0, 0, 0, 2), 5);
        Check.due("all but the first come late", x.other(0, 0, 0), 3);
    }

    /** Of 60 DIPS each one whose k is a multiple of n comes an HOUR late. */
    private static DimStars oneIn(int n, int count) {
        DimStars x = withSearch("beat 10 10;long 2 2");
        Check.law(x, "bright 1000");
        x.world(0, 10, 3, 2, 500, false);
        x.make(0, 0, 0, 0, 10 * count - 1);
        for (int k = 0; k < count; k += n) {
            put(x, 0, 3 + 10 * k, 1000, 500, 500);
        }
        Check.due("first", x.found(0, 0, 0, 2), 3);
        return x;
    }

    private static void rounds() {
        int[][] due = {{2, 2}, {3, 3}, {19, 19}, {20, 20}, {21, -1}, {30, -1}};
        for (int[] d : due) {
            Check.due("ROUND of one in " + d[0], oneIn(d[0], 60).other(0, 0, 1), d[1]);
        }
        // the least p: some k and k + p must be DIPS, all of them alike
        Check.due("21 DIPS, the first late: 20 and 0 are apart, too", oneIn(30, 21).other(0, 0, 1), -1);
        Check.due("20 DIPS: none is 20 from another", oneIn(30, 20).other(0, 0, 1), -1);
        Check.due("2 DIPS that differ", oneIn(2, 2).other(0, 0, 1), -1);
        Check.due("4 DIPS, the first and the third late", oneIn(2, 4).other(0, 0, 1), 2);
        DimStars y = oneIn(20, 21);
        Check.due("21 DIPS, the first and the last late: p = 20 alone", y.other(0, 0, 1), 20);
        DimStars z = oneIn(21, 22);
        Check.due("22 DIPS, the first and the last late: p = 21 is none", z.other(0, 0, 1), -1);
    }

    private static void roundOfOne() {
        DimStars x = withSearch("beat 50 50;long 1 1");
        put(x, 0, 3, 9, 9, 2, 9, 9);
        Check.due("no k and k + p", x.other(0, 0, 1), -1);
        x.row(0, 55, 2);
        Check.due("two DIPS alike", x.other(0, 0, 1), 1);
        x.row(0, 55, NOTHING);
        x.row(0, 105, 2);
        Check.due("the one between is none", x.other(0, 0, 1), 2);
    }
}
