/** Bounds of part II: the WAYS, WIDE, MASKED, ORDER, what is TRIED, SPREAD, FOUND and SEEN. */
public final class LookBoundsTest {
    private static final int NOTHING = -100000;

    private LookBoundsTest() {
    }

    public static void main(String[] args) {
        upsideDown();
        turnedRound();
        wideness();
        wideAtTheEnds();
        cleanHeld();
        cleanDownwards();
        maskedByStars();
        maskedByAll();
        maskedByMore();
        maskedOfACell();
        maskedAtFirst();
        orders();
        asTheyAre();
        inAndOut();
        withoutBoth();
        dips();
        dipsOverTheEnds();
        deepDownwards();
        scores();
        spreads();
        spreadOfTheWay();
        someInSomeOut();
        scoreAboveZero();
        leastDips();
        ofSeveral();
        seen();
        nothingFound();
        Check.end();
    }

    private static void put(DimStars x, int star, int from, int... numbers) {
        for (int i = 0; i < numbers.length; i++) {
            x.row(star, from + i, numbers[i]);
        }
    }

    private static DimStars oneStar(int from, int... numbers) {
        DimStars x = new DimStars();
        x.star(1, 0, 1);
        put(x, 0, from, numbers);
        return x;
    }

    private static void upsideDown() {
        DimStars x = oneStar(0, 30000, -30000, 0, 1, NOTHING);
        int[] due = {-30000, 30000, 0, -1, NOTHING};
        for (int hour = 0; hour < 5; hour++) {
            Check.due("upside down " + hour, x.at(0, hour, 1), due[hour]);
        }
    }

    private static void turnedRound() {
        DimStars x = new DimStars();
        x.star(1, 0, 1);
        int[][] pairs = {{0, 450}, {149, 599}, {150, 300}, {299, 449}, {300, 150}, {449, 299}, {450, 0}, {599, 149}};
        for (int i = 0; i < 8; i++) {
            x.row(0, pairs[i][0], i);
        }
        for (int i = 0; i < 8; i++) {
            Check.due("turned round, HOUR " + pairs[i][1], x.at(0, pairs[i][1], 2), i);
        }
        Check.due("nothing stays nothing", x.at(0, 1, 2), NOTHING);
    }

    /** HOUR 300 is 0, another one 30: the mean is 15 if that one is near enough. */
    private static void wideness() {
        int[] wide = {-1, 0, 1, 19, 20, 21, 49, 50};
        for (int w : wide) {
            for (int side = -1; side <= 1; side += 2) {
                int told = w < 0 ? 20 : w;
                DimStars x = oneStar(300, 0);
                if (w >= 0) {
                    Check.due("wide(" + w + ")", x.wide(w), 20);
                }
                x.row(0, 300 + side * (told + 1), 30);
                Check.due("one HOUR too far of " + told, x.at(0, 300, 3), 0);
                x.row(0, 300 + side * (told + 1), NOTHING);
                if (told > 0) {
                    x.row(0, 300 + side * told, 30);
                    Check.due("just near enough of " + told, x.at(0, 300, 3), -15);
                    Check.due("so is that one", x.at(0, 300 + side * told, 3), 15);
                }
            }
        }
    }

    private static void wideAtTheEnds() {
        DimStars x = oneStar(0, 0);
        x.wide(50);
        x.row(0, 50, 100);
        x.row(0, 599, 7);
        x.row(0, 549, 27);
        x.row(0, 51, 1000);
        Check.due("HOURS 0 to 50", x.at(0, 0, 3), -50);
        Check.due("HOURS 549 to 599", x.at(0, 599, 3), -10);
        Check.due("HOUR 549", x.at(0, 549, 3), 10);
        // 0, 100, 1000 by 3: 366
        Check.due("HOURS 0 to 100", x.at(0, 50, 3), 100 - 366);
        // 100, 1000 by 2: HOUR 0 is 51 away
        Check.due("HOURS 1 to 101", x.at(0, 51, 3), 1000 - 550);
    }

    private static void cleanHeld() {
        // the mean is 0: 30000 and -30000 need no hold
        DimStars x = oneStar(0, 30000, -30000);
        Check.due("30000", x.at(0, 0, 3), 30000);
        Check.due("-30000", x.at(0, 1, 3), -30000);
        // the mean is -1 / 3, downwards -1
        x = oneStar(0, 30000, -30000, -1);
        Check.due("30001 is held", x.at(0, 0, 3), 30000);
        Check.due("-29999", x.at(0, 1, 3), -29999);
        // the mean is 3 / 3
        x = oneStar(0, 30000, -30000, 3);
        Check.due("-30001 is held", x.at(0, 1, 3), -30000);
        Check.due("29999", x.at(0, 0, 3), 29999);
        x = oneStar(0, 30000, -30000, -30000, -30000);
        Check.due("45000 is held", x.at(0, 0, 3), 30000);
        x = oneStar(0, -30000, 30000, 30000, 30000);
        Check.due("-45000 is held", x.at(0, 0, 3), -30000);
    }

    private static void cleanDownwards() {
        // means: 1 / 2 is 0, -1 / 2 is -1, 5 / 3 is 1, -5 / 3 is -2
        int[][] rows = {{0, 1}, {0, -1}, {1, 2, 2}, {-1, -2, -2}};
        int[][] due = {{0, 1}, {1, 0}, {0, 1, 1}, {1, 0, 0}};
        for (int i = 0; i < 4; i++) {
            DimStars x = oneStar(0, rows[i]);
            for (int hour = 0; hour < rows[i].length; hour++) {
                Check.due("clean, ROW " + i + ", HOUR " + hour, x.at(0, hour, 3), due[i][hour]);
            }
        }
        DimStars z = oneStar(0, NOTHING, 5);
        z.row(0, 598, 5);
        Check.due("nothing at the first HOUR", z.at(0, 0, 3), NOTHING);
        Check.due("nothing at the last HOUR", z.at(0, 599, 3), NOTHING);
        DimStars y = oneStar(0, 5, NOTHING, 7);
        Check.due("nothing stays nothing", y.at(0, 1, 3), NOTHING);
        Check.due("nothing does not count", y.at(0, 0, 3), -1);
        y.wide(0);
        Check.due("itself is counted", y.at(0, 0, 3), 0);
    }

    /** Three STARS of the cell, of which so many are low at HOUR 0. */
    private static void maskedByStars() {
        for (int low = 0; low <= 3; low++) {
            for (int told = 1; told <= 4; told++) {
                DimStars x = new DimStars();
                for (int star = 0; star < 3; star++) {
                    x.star(1, 5, 1);
                    put(x, star, 0, star < low ? 0 : 10, 10);
                }
                Check.due("mask by " + told, x.mask(5, told, 0), true);
                for (int star = 0; star < 3; star++) {
                    int due = low >= told ? NOTHING : star < low ? 0 : 10;
                    Check.due(low + " low ones by " + told, x.at(star, 0, 4), due);
                    Check.due("the other HOUR", x.at(star, 1, 4), 10);
                }
            }
        }
    }

    private static void maskedByAll() {
        DimStars x = new DimStars();
        for (int star = 0; star < 12; star++) {
            x.star(1, 7, 1);
            put(x, star, 598, 10, star < 11 ? 0 : 10);
        }
        Check.due("mask by 12", x.mask(7, 12, 0), true);
        Check.due("11 are too few", x.at(0, 599, 4), 0);
        x.row(11, 599, NOTHING);
        Check.due("one without a number is not low", x.at(0, 599, 4), 0);
        // its mean is 18 / 2
        x.row(11, 599, 8);
        Check.due("12 are enough", x.at(0, 599, 4), NOTHING);
        Check.due("for the last one, too", x.at(11, 599, 4), NOTHING);
        Check.due("mask by 13", x.mask(7, 13, 0), false);
        Check.due("nothing happens", x.at(11, 599, 4), NOTHING);
        Check.due("mask by -1", x.mask(7, -1, 0), false);
        Check.due("nothing happens", x.at(11, 599, 4), NOTHING);
    }

    private static void maskedByMore() {
        DimStars x = oneStar(0, 10, 20);
        // the mean is 15, HOUR 0 is 5 below it
        int[] below = {0, 4, 5, 6};
        for (int b : below) {
            x.mask(0, 1, b);
            Check.due("by more than " + b, x.at(0, 0, 4), b < 5 ? NOTHING : 10);
            Check.due("one above the mean", x.at(0, 1, 4), 20);
        }
        x = oneStar(0, 10, 10);
        x.mask(0, 1, 0);
        Check.due("at the mean", x.at(0, 0, 4), 10);
        // means: 1 / 2 is 0, -1 / 2 is -1, downwards
        x = oneStar(0, 0, 1);
        x.mask(0, 1, 0);
        Check.due("at 0", x.at(0, 0, 4), 0);
        x = oneStar(0, -1, 0);
        x.mask(0, 1, 0);
        Check.due("at -1", x.at(0, 0, 4), -1);
        x = oneStar(0, -1, 1);
        x.mask(0, 1, 0);
        Check.due("below 0", x.at(0, 0, 4), NOTHING);
        // means: 2 / 3 is 0, 3 / 3 is 1: 30000 and 30001 below it
        x = oneStar(0, -30000, 30000, 2);
        x.mask(0, 1, 30000);
        Check.due("by 30000", x.at(0, 0, 4), -30000);
        x = oneStar(0, -30000, 30000, 3);
        x.mask(0, 1, 30000);
        Check.due("by more than 30000", x.at(0, 0, 4), NOTHING);
        Check.due("below 30001", x.mask(0, 1, 30001), false);
        Check.due("below -1", x.mask(0, 1, -1), false);
        Check.due("nothing happens", x.at(0, 0, 4), NOTHING);
    }

    private static void maskedOfACell() {
        DimStars x = new DimStars();
        for (int star = 0; star < 8; star++) {
            x.star(1, star, 1);
            put(x, star, 0, 0, 10);
        }
        x.mask(0, 1, 0);
        x.mask(7, 1, 0);
        for (int star = 0; star < 8; star++) {
            Check.due("cell " + star, x.at(star, 0, 4), star == 0 || star == 7 ? NOTHING : 0);
        }
        x.mask(0, 2, 0);
        Check.due("those of other cells don't count", x.at(0, 0, 4), 0);
        Check.due("another cell is as it was", x.at(7, 0, 4), NOTHING);
        Check.due("cell -1", x.mask(-1, 1, 0), false);
        Check.due("cell 8", x.mask(8, 1, 0), false);
        Check.due("no other WAY is masked", x.at(7, 0, 0) + x.at(7, 0, 1) + x.at(7, 0, 5), 0);
    }

    private static void maskedAtFirst() {
        DimStars x = oneStar(0, -30000, 30000);
        Check.due("no HOURS at first", x.at(0, 0, 4), -30000);
        x.mask(0, 1, 0);
        Check.due("then one", x.at(0, 0, 4), NOTHING);
        x.mask(0, 0, 0);
        Check.due("by 0 STARS: no HOURS", x.at(0, 0, 4), -30000);
        Check.due("nor where nobody is low", x.at(0, 1, 4), 30000);
        DimStars y = new DimStars();
        y.star(1, 0, 1);
        y.mask(0, 1, 0);
        Check.due("a ROW without numbers", y.at(0, 0, 4), NOTHING);
    }

    private static void orders() {
        DimStars x = new DimStars();
        x.star(1, 0, 1);
        for (int season = 0; season < 4; season++) {
            x.row(0, season * 150, 10 + season);
            x.row(0, season * 150 + 149, 20 + season);
        }
        for (int season = 0; season < 4; season++) {
            Check.due("the first ORDER at first", x.at(0, season * 150, 5), 10 + season);
        }
        Check.due("order(23)", x.order(23), 0);
        for (int season = 0; season < 4; season++) {
            Check.due("3210", x.at(0, season * 150, 5), 13 - season);
            Check.due("3210, last HOUR", x.at(0, season * 150 + 149, 5), 23 - season);
        }
        Check.due("order(24)", x.order(24), -1);
        Check.due("order(-1)", x.order(-1), -1);
        Check.due("nothing happens", x.at(0, 0, 5), 13);
        Check.due("order(0)", x.order(0), 23);
        Check.due("0123", x.at(0, 0, 5), 10);
        Check.due("order(1)", x.order(1), 0);
        Check.due("0132", x.at(0, 300, 5) * 100 + x.at(0, 450, 5), 1312);
        Check.due("order(22)", x.order(22), 1);
        // 3201
        Check.due("3201", x.at(0, 300, 5) * 100 + x.at(0, 450, 5), 1011);
        allOrders();
    }

    private static void allOrders() {
        DimStars x = new DimStars();
        x.star(1, 0, 1);
        for (int season = 0; season < 4; season++) {
            x.row(0, season * 150 + 70, season);
        }
        int[] due = {123, 132, 213, 231, 312, 321, 1023, 1032, 1203, 1230, 1302, 1320,
            2013, 2031, 2103, 2130, 2301, 2310, 3012, 3021, 3102, 3120, 3201, 3210};
        for (int n = 0; n < 24; n++) {
            Check.due("order(" + n + ")", x.order(n), Math.max(0, n - 1));
            int told = 0;
            for (int season = 0; season < 4; season++) {
                told = told * 10 + x.at(0, season * 150 + 70, 5);
            }
            Check.due("ORDER " + n, told, due[n]);
        }
    }

    /** WAYS look at what is there when it is asked. */
    private static void asTheyAre() {
        DimStars x = oneStar(0, 0, 10);
        x.star(1, 0, 1);
        put(x, 1, 0, 5, 10);
        x.mask(0, 2, 0);
        Check.due("both are low", x.at(0, 0, 4), NOTHING);
        x.row(1, 0, 15);
        Check.due("one no longer", x.at(0, 0, 4), 0);
        x.star(1, 0, 1);
        put(x, 2, 0, 5, 10);
        Check.due("a new STAR of the cell counts", x.at(0, 0, 4), NOTHING);
        Check.due("clean", x.at(0, 1, 3), 5);
        x.row(0, 2, 2);
        Check.due("clean with another number", x.at(0, 1, 3), 6);
        foundAsTheyAre();
    }

    private static void foundAsTheyAre() {
        DimStars x = new DimStars();
        x.star(1, 0, 1);
        x.world(0, 7, 2, 1, 400, false);
        Check.law(x, "bright 1000");
        x.make(0, 0, 0, 0, 99);
        Check.search(x, "beat 7 7;long 1 1");
        Check.due("clean", x.found(0, 0, 3, 2), 2);
        x.wide(0);
        Check.due("clean of itself alone", x.found(0, 0, 3, 2), -1);
        Check.due("in ORDER", x.found(0, 0, 5, 2), 2);
        x.order(6);
        // 1023: HOUR 2 is at 152 now
        Check.due("in another ORDER", x.found(0, 0, 5, 2), 5);
        Check.due("not MASKED", x.found(0, 0, 4, 2), 2);
        x.mask(0, 1, 0);
        Check.due("MASKED", x.found(0, 0, 4, 2), -1);
        x.image(0);
        x.wide(20);
        x.order(0);
        x.mask(0, 0, 0);
        for (int way = 3; way < 6; way++) {
            Check.due("WAY " + way + " as it is", x.found(0, 0, way, 2), 2);
        }
        x.back(0);
        int[] due = {-1, -1, 5};
        for (int way = 3; way < 6; way++) {
            Check.due("WAY " + way + " as it was", x.found(0, 0, way, 2), due[way - 3]);
        }
        x.row(0, 2, 1000);
        x.row(0, 9, 1000);
        x.make(0, 0, 0, 0, 20);
        Check.due("as it is", x.found(0, 0, 0, 5), 14);
    }

    private static void inAndOut() {
        // HOURS 0 to 11; first 9 of beat 10, long 3: 9, 10, 11 and, before it, 0, 1
        DimStars x = oneStar(0, 1, 2, 3, 4, 5, 6, 7, 8, 9, 10, 11, 12);
        Check.due("IN goes round before first", x.tried(0, 0, 10, 3, 9, 0), 5);
        Check.due("OUT", x.tried(0, 0, 10, 3, 9, 1), 7);
        // IN 1, 2, 10, 11, 12: 36 / 5; OUT 3 to 9: 6
        Check.due("DEEP: -1.2", x.tried(0, 0, 10, 3, 9, 2), -2);
        Check.due("upside down: 1.2", x.tried(0, 1, 10, 3, 9, 2), 1);
        Check.due("long just below the beat", x.tried(0, 0, 11, 10, 0, 1), 1);
        Check.due("first is the last one", x.tried(0, 0, 12, 1, 11, 0), 1);
        Check.due("beat 2", x.tried(0, 0, 2, 1, 1, 0), 6);
        Check.due("beat 200, long 10, first 199", x.tried(0, 0, 200, 10, 199, 0), 9);
        x.row(0, 599, 0);
        Check.due("HOUR 599 is IN", x.tried(0, 0, 200, 10, 199, 0), 10);
        Check.due("beat 200, first 199, long 1", x.tried(0, 0, 200, 1, 199, 0), 1);
    }

    private static void withoutBoth() {
        DimStars none = new DimStars();
        none.star(1, 0, 1);
        DimStars in = oneStar(3, 5);
        DimStars both = oneStar(3, 5, 5);
        long[][] due = {{0, 0, -100000, 0, 0}, {1, 0, -100000, 1, 0}, {1, 1, 0, 1, 0}};
        long[] outAlone = {0, 1, -100000, 0, 0};
        for (int what = 0; what < 5; what++) {
            Check.due("no numbers, " + what, none.tried(0, 0, 10, 1, 3, what), due[0][what]);
            Check.due("IN alone, " + what, in.tried(0, 0, 10, 1, 3, what), due[1][what]);
            Check.due("OUT alone, " + what, in.tried(0, 0, 10, 1, 4, what), outAlone[what]);
            Check.due("both, " + what, both.tried(0, 0, 10, 1, 3, what), due[2][what]);
        }
    }

    private static void dips() {
        DimStars x = new DimStars();
        x.star(1, 0, 1);
        Check.law(x, "bright 5");
        x.make(0, 0, 0, 0, 599);
        Check.due("beat 2, first 0", x.tried(0, 0, 2, 1, 0, 3), 300);
        Check.due("beat 2, first 1", x.tried(0, 0, 2, 1, 1, 3), 300);
        Check.due("beat 200", x.tried(0, 0, 200, 1, 199, 3), 3);
        Check.due("beat 200, one more before the ROW", x.tried(0, 0, 200, 2, 199, 3), 4);
        Check.due("beat 7: 0, 7, .. 595", x.tried(0, 0, 7, 1, 0, 3), 86);
        Check.due("beat 7, first 5: 5, .. 593 and none at 600", x.tried(0, 0, 7, 1, 5, 3), 85);
        Check.due("beat 7, first 4, long 6: -3 and 599 too", x.tried(0, 0, 7, 6, 4, 3), 87);
        Check.due("beat 7, first 4, long 4: none at -3 + 3", x.tried(0, 0, 7, 4, 4, 3), 87);
        Check.due("beat 7, first 4, long 3: -3 to -1", x.tried(0, 0, 7, 3, 4, 3), 86);
    }

    private static void dipsOverTheEnds() {
        DimStars x = oneStar(0, 1, 1);
        // k = -1: HOURS -1, 0, 1
        Check.due("k = -1", x.tried(0, 0, 10, 3, 9, 3), 1);
        x.row(0, 0, NOTHING);
        Check.due("its last HOUR is enough", x.tried(0, 0, 10, 3, 9, 3), 1);
        Check.due("its last HOUR is not there", x.tried(0, 0, 10, 2, 9, 3), 0);
        x.row(0, 1, NOTHING);
        Check.due("no HOUR IN", x.tried(0, 0, 10, 3, 9, 3), 0);
        x.row(0, 599, 1);
        Check.due("k = 59: HOURS 599, 600, 601", x.tried(0, 0, 10, 3, 9, 3), 1);
        Check.due("k = 59: HOURS 597, 598, 599", x.tried(0, 0, 10, 3, 7, 3), 1);
        Check.due("k = 59: HOURS 596, 597, 598", x.tried(0, 0, 10, 3, 6, 3), 0);
    }

    private static void deepDownwards() {
        // OUT at HOUR 1, IN at HOURS 0 and 2
        int[][] rows = {{0, 1, 1}, {1, 1, 2}, {0, 1, 0}, {1, 0, 0}, {0, 2, 1}, {0, 0, 1}};
        int[] due = {0, -1, 1, -1, 1, -1};
        long[] score = {0, 0, 2, 0, 2, 0};
        for (int i = 0; i < rows.length; i++) {
            DimStars x = oneStar(0, rows[i]);
            Check.due("DEEP of ROW " + i, x.tried(0, 0, 2, 1, 0, 2), due[i]);
            // SPREAD is 1 in each of these
            Check.due("SCORE of ROW " + i, x.tried(0, 0, 2, 1, 0, 4), score[i]);
        }
        DimStars far = oneStar(0, -30000, 30000);
        Check.due("the greatest DEEP", far.tried(0, 0, 2, 1, 0, 2), 60000);
        Check.due("the least DEEP", far.tried(0, 0, 2, 1, 1, 2), -60000);
    }

    private static void scores() {
        // IN 0, OUT 12 + t and 12 - t: DEEP 12, SPREAD 32 + 2 * t * t / 3
        int[] t = {12, 13, 14};
        // 144 by 128, 144, 162
        long[] due = {1, 1, 0};
        for (int i = 0; i < 3; i++) {
            DimStars x = oneStar(0, 0, 12 + t[i], 12 - t[i]);
            Check.due("DEEP", x.tried(0, 0, 3, 1, 0, 2), 12);
            Check.due("SCORE, downwards", x.tried(0, 0, 3, 1, 0, 4), due[i]);
        }
        Check.due("SPREAD at the SCORE's edge", oneStar(0, 0, 25, -1).spread(0), 144);
        DimStars far = new DimStars();
        far.star(1, 0, 1);
        Check.law(far, "bright 0-20000 if hour-hour/2*2=0;bright 20000");
        far.make(0, 0, 0, 0, 599);
        // 40000 * 40000 * 300 by 400000000
        Check.due("a SCORE of many", far.tried(0, 0, 2, 1, 0, 4), 1200);
    }

    private static void spreads() {
        int[][] rows = {{7}, {7, 7}, {0, 1}, {0, 2}, {0, 3}, {-30000, 30000}, {1, 1, 2}, {-5, 0, 0}, {-30000}};
        // 0, 0, 1 / 4, 4 / 4, 9 / 4, .., 2 / 9, 50 / 9, 0
        long[] due = {1, 1, 1, 1, 2, 900000000, 1, 5, 1};
        for (int i = 0; i < rows.length; i++) {
            Check.due("SPREAD of ROW " + i, oneStar(0, rows[i]).spread(0), due[i]);
        }
        DimStars x = new DimStars();
        Check.due("without a STAR", x.spread(0), -1);
        x.star(1, 0, 1);
        Check.due("without numbers", x.spread(0), -1);
        x.row(0, 599, 4);
        Check.due("with one", x.spread(0), 1);
        x.row(0, 599, NOTHING);
        Check.due("without numbers again", x.spread(0), -1);
    }

    /** SCORE by a WAY takes the SPREAD of the ROW as it is looked at. */
    private static void spreadOfTheWay() {
        DimStars x = oneStar(0, 0, 10, 20, 100, 0);
        x.mask(0, 1, 20);
        // the mean is 26: HOURS 0 and 4 are masked; of 10, 20, 100 SPREAD is (31500 - 16900) / 9 = 1622
        Check.due("without MASKED HOURS", x.tried(0, 4, 5, 1, 1, 4), 50 * 50 / 1622);
        Check.due("as it is: DEEP 20, SPREAD 1424", x.tried(0, 0, 5, 1, 1, 4), 20 * 20 / 1424);
        Check.due("spread is of the ROW as it is", x.spread(0), (5 * 10500 - 130 * 130) / 25);
    }

    private static void someInSomeOut() {
        DimStars one = oneStar(5, -30000);
        Check.search(one, "beat 2 200;long 1 10");
        Check.due("one number alone", one.found(0, 0, 0, 0), -1);
        one.row(0, 6, 30000);
        Check.due("two", one.found(0, 0, 0, 0), 2);
        DimStars in = oneStar(0, 0, 9);
        Check.search(in, "beat 3 3;long 2 2");
        // first 0 has both IN, first 1 the second one, first 2 the first one
        Check.due("some OUT", in.found(0, 0, 0, 2), 2);
        DimStars all = oneStar(0, 0);
        all.row(0, 20, 9);
        Check.search(all, "beat 20 20;long 1 10");
        Check.due("both are IN or both are OUT", all.found(0, 0, 0, 0), -1);
    }

    private static void scoreAboveZero() {
        // beat 2: IN 0 and the third; DEEP 1; SPREAD 2 and 4
        DimStars x = oneStar(0, 0, 1, 3, 4);
        Check.search(x, "beat 2 2");
        Check.due("a SCORE of 1", x.found(0, 0, 0, 4), 1);
        DimStars y = oneStar(0, 0, 1, 4, 5);
        Check.search(y, "beat 2 2");
        Check.due("DEEP 1", y.tried(0, 0, 2, 1, 0, 2), 1);
        Check.due("a SCORE of 0", y.tried(0, 0, 2, 1, 0, 4), 0);
        Check.due("is not FOUND", y.found(0, 0, 0, 4), -1);
        Check.due("nor SEEN", y.found(0, 0, 0, 6), 0);
        DimStars z = oneStar(0, 5, 5, 5, 5);
        Check.search(z, "line 0");
        Check.due("all alike: DEEP 0", z.found(0, 0, 0, 0), -1);
    }

    private static void leastDips() {
        for (int least = 1; least <= 4; least++) {
            DimStars x = oneStar(0, 9, 9, 9, 0, 9, 9, 9, 9, 0, 9, 9, 9, 9, 0, 9);
            Check.search(x, "beat 5 5;long 1 1;least " + least);
            Check.due("three DIPS, least " + least, x.found(0, 0, 0, 5), least <= 3 ? 3 : -1);
        }
        // the deepest HOUR, 3, is in one DIP alone; HOURS 2 and 12 are two DIPS
        DimStars y = oneStar(0, 9, 9, 1, -10, 0, 9, 9, 9, 9, 9, 9, 9, 1);
        Check.search(y, "beat 10 10;long 1 1;least 2");
        Check.search(y, "beat 10 10;long 1 1;least 1");
        Check.due("with one DIP", y.found(1, 0, 0, 2), 3);
        Check.due("its DIPS", y.found(1, 0, 0, 5), 1);
        Check.due("with two DIPS", y.found(0, 0, 0, 2), 2);
        Check.due("its DIPS", y.found(0, 0, 0, 5), 2);
        y.row(0, 12, NOTHING);
        Check.due("no other one has two DIPS and is deep", y.found(0, 0, 0, 2), -1);
        mostDips();
    }

    /** Of beat 7 there are 85 in 600 HOURS, and one more at each end. */
    private static void mostDips() {
        DimStars x = new DimStars();
        x.star(1, 0, 1);
        Check.law(x, "bright 0 if hour-hour/7*7=0;bright 0 if hour-hour/7*7>3;bright 9");
        x.make(0, 0, 0, 0, 599);
        for (int least = 85; least <= 88; least++) {
            Check.search(x, "beat 7 7;long 4 4;least " + least);
            Check.due("87 DIPS, least " + least, x.found(least - 85, 0, 0, 5), least <= 87 ? 87 : -1);
        }
    }

    private static void ofSeveral() {
        // one low HOUR: each beat that has it alone IN is as good
        DimStars x = oneStar(0, 9, 9, 9, 9, 9, 0);
        Check.search(x, "beat 6 9;long 1 1");
        Check.search(x, "beat 8 9;long 1 1");
        Check.due("the least beat", x.found(0, 0, 0, 0), 6);
        Check.due("the least beat of these", x.found(1, 0, 0, 0), 8);
        // HOUR 5 alone in the last part of a ROW: longs of 1 to 3 have it alone
        Check.search(x, "beat 50 60;long 1 3");
        Check.search(x, "beat 50 60;long 2 3");
        Check.due("the least long", x.found(2, 0, 0, 1), 1);
        Check.due("the least long of these", x.found(3, 0, 0, 1), 2);
        Check.due("its first", x.found(3, 0, 0, 2), 5);
        DimStars y = oneStar(50, 0);
        y.row(0, 60, 9);
        Check.search(y, "beat 100 100;long 4 4");
        Check.due("the least first: HOURS 47 to 50", y.found(0, 0, 0, 2), 47);
        DimStars z = oneStar(0, 0, 9, 0, 9);
        Check.search(z, "beat 4 4;long 1 1");
        Check.due("the least first of two alike", z.found(0, 0, 0, 2), 0);
    }

    private static void seen() {
        for (int line = 124; line <= 126; line++) {
            DimStars x = new DimStars();
            x.star(1, 0, 1);
            x.world(0, 10, 3, 2, 400, false);
            Check.law(x, "bright 1000");
            x.make(0, 0, 0, 0, 99);
            Check.search(x, "beat 10 10;line " + line);
            // 400 * 400 * 20 by 25600
            Check.due("SCORE", x.found(0, 0, 0, 4), 125);
            Check.due("SEEN by line " + line, x.found(0, 0, 0, 6), line <= 125 ? 1 : 0);
            Check.due("FOUND by line " + line, x.found(0, 0, 0, 0), 10);
        }
    }

    private static void nothingFound() {
        DimStars x = new DimStars();
        x.star(1, 0, 1);
        Check.search(x, "line 0");
        for (int way = 0; way < 6; way++) {
            for (int what = 0; what < 6; what++) {
                Check.due("nothing is FOUND", x.found(0, 0, way, what), -1);
            }
            Check.due("nor SEEN", x.found(0, 0, way, 6), 0);
        }
    }
}
