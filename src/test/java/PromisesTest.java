/** Each promise by itself, with answers worked out by hand from the document. */
public final class PromisesTest {
    private static final int LEAST = Integer.MIN_VALUE;
    private static final int MOST = Integer.MAX_VALUE;

    private PromisesTest() {
    }

    public static void main(String[] args) {
        newObject();
        star();
        row();
        resize();
        wide();
        mask();
        order();
        at();
        world();
        feedAndEnd();
        text();
        make();
        makeByWords();
        tried();
        triedAtEdges();
        found();
        foundBy();
        spread();
        catches();
        share();
        chance();
        line();
        sign();
        signsOfMore();
        shift();
        weight();
        sorted();
        odds();
        truly();
        bound();
        second();
        next();
        alias();
        radius();
        many();
        finest();
        room();
        other();
        fold();
        nights();
        count();
        images();
        Check.end();
    }

    /**
     * One STAR (size 100, cell 0, luck 500), HOURS 0 to 99 at 1000, dips to 600 by a real WORLD with
     * beat 10, first 3, long 2; SEARCH 0: beat 2 20; long 1 3. It is FOUND with DEEP 400, 20 HOURS IN,
     * SPREAD 25600 and so SCORE 125, DIPS 10.
     */
    private static DimStars dipping() {
        DimStars x = new DimStars();
        x.star(100, 0, 500);
        x.world(0, 10, 3, 2, 400, false);
        Check.law(x, "bright 1000");
        Check.search(x, "beat 2 20; long 1 3");
        x.make(0, 0, 1, 0, 99);
        return x;
    }

    /** dipping() and a second STAR, whose ROW is 1000 at HOURS 0 to 99. */
    private static DimStars withFlat() {
        DimStars x = dipping();
        x.star(200, 0, 100);
        x.make(0, 1, 1, 0, 99);
        return x;
    }

    private static void put(DimStars x, int star, int from, int... numbers) {
        for (int i = 0; i < numbers.length; i++) {
            x.row(star, from + i, numbers[i]);
        }
    }

    private static void newObject() {
        DimStars x = new DimStars();
        Check.due("NONE", DimStars.NONE, -1);
        for (int what = 0; what <= 7; what++) {
            Check.due("count(" + what + ") of a new one", x.count(what), 0);
        }
        Check.due("wide at first", x.wide(20), 20);
        Check.due("order at first", x.order(0), 0);
        Check.due("finest of a new one", x.finest(), -1);
        Check.due("back to none", x.back(0), -1);
        DimStars y = new DimStars();
        y.star(1, 0, 1);
        Check.due("another object has its own", x.count(0), 0);
    }

    private static void star() {
        DimStars x = new DimStars();
        int[][] wrong = {{0, 0, 1}, {1000, 0, 1}, {1, -1, 1}, {1, 8, 1}, {1, 0, 0}, {1, 0, 1001}, {LEAST, 0, 1}, {1, 0, MOST}};
        for (int[] w : wrong) {
            Check.due("star with something wrong", x.star(w[0], w[1], w[2]), -1);
        }
        Check.due("star at the low edges", x.star(1, 0, 1), 0);
        Check.due("star at the high edges", x.star(999, 7, 1000), 1);
        for (int i = 2; i < 12; i++) {
            Check.due("star " + i, x.star(5, 5, 5), i);
        }
        Check.due("a thirteenth star", x.star(5, 5, 5), -1);
        Check.due("stars", x.count(0), 12);
    }

    private static void row() {
        DimStars x = new DimStars();
        Check.due("row without a star", x.row(0, 0, 5), -200000);
        x.star(1, 0, 1);
        Check.due("row at first", x.row(0, 0, -30000), -100000);
        Check.due("row then", x.row(0, 0, 30000), -30000);
        Check.due("row to nothing", x.row(0, 0, -100000), 30000);
        Check.due("row of nothing", x.row(0, 0, 0), -100000);
        Check.due("row, last hour", x.row(0, 599, 1), -100000);
        int[][] wrong = {{0, -1, 1}, {0, 600, 1}, {0, 0, 30001}, {0, 0, -30001}, {0, 0, -99999}, {0, 0, -100001},
            {1, 0, 1}, {-1, 0, 1}, {MOST, 0, 1}, {0, MOST, 1}, {0, 0, LEAST}};
        for (int[] w : wrong) {
            Check.due("row with something wrong", x.row(w[0], w[1], w[2]), -200000);
        }
        Check.due("nothing happened", x.at(0, 0, 0), 0);
        Check.due("numbers", x.count(6), 2);
    }

    private static void resize() {
        DimStars x = dipping();
        Check.due("radius before", x.radius(0, 0), 6);
        Check.due("resize", x.resize(0, 999), 100);
        Check.due("resize again", x.resize(0, 1), 999);
        Check.due("radius of a small one", x.radius(0, 0), 0);
        Check.due("resize to 0", x.resize(0, 0), -1);
        Check.due("resize to 1000", x.resize(0, 1000), -1);
        Check.due("resize without a star", x.resize(1, 5), -1);
        Check.due("resize below", x.resize(-1, 5), -1);
        Check.due("nothing happened", x.resize(0, 100), 1);
    }

    private static void wide() {
        DimStars x = new DimStars();
        Check.due("wide", x.wide(0), 20);
        Check.due("wide 50", x.wide(50), 0);
        Check.due("wide 51", x.wide(51), -1);
        Check.due("wide -1", x.wide(-1), -1);
        Check.due("nothing happened", x.wide(20), 50);
    }

    private static void mask() {
        DimStars x = new DimStars();
        x.star(1, 3, 1);
        x.star(1, 3, 1);
        x.star(1, 4, 1);
        // means: (10 + 10 + 5) / 3 = 8, downwards; 9; the third one is of another cell
        put(x, 0, 0, 10, 10, 5);
        put(x, 1, 0, 10, 8, 9);
        put(x, 2, 0, 100, 0, 100);
        Check.due("no hours at first", x.at(0, 2, 4), 5);
        Check.due("mask", x.mask(3, 1, 0), true);
        Check.due("the first star's low hour", x.at(0, 2, 4), -100000);
        Check.due("the second star's low hour", x.at(0, 1, 4), -100000);
        Check.due("for the second star too", x.at(1, 2, 4), -100000);
        Check.due("no low hour", x.at(0, 0, 4), 10);
        Check.due("not for another cell", x.at(2, 1, 4), 0);
        Check.due("mask by 2 stars", x.mask(3, 2, 0), true);
        Check.due("one star is too few", x.at(0, 2, 4), 5);
        Check.due("mask by 3", x.mask(3, 1, 3), true);
        Check.due("by 3 and not more", x.at(0, 2, 4), 5);
        Check.due("mask by 2", x.mask(3, 1, 2), true);
        Check.due("by more than 2", x.at(0, 2, 4), -100000);
        int[][] wrong = {{-1, 1, 0}, {8, 1, 0}, {3, -1, 0}, {3, 13, 0}, {3, 0, -1}, {3, 0, 30001}};
        for (int[] w : wrong) {
            Check.due("mask with something wrong", x.mask(w[0], w[1], w[2]), false);
        }
        Check.due("nothing happened", x.at(0, 2, 4), -100000);
        Check.due("mask of no hours", x.mask(3, 0, 30000), true);
        Check.due("no hours", x.at(0, 2, 4), 5);
        Check.due("mask by 12", x.mask(0, 12, 0), true);
    }

    private static void order() {
        DimStars x = new DimStars();
        x.star(1, 0, 1);
        for (int season = 0; season < 4; season++) {
            x.row(0, season * 150 + 149, season);
        }
        int[][] some = {{0, 1, 2, 3}, {0, 1, 3, 2}, {0, 2, 1, 3}, {0, 2, 3, 1}, {0, 3, 1, 2}, {0, 3, 2, 1}, {1, 0, 2, 3}};
        for (int n = 0; n < some.length; n++) {
            Check.due("order " + n, x.order(n), Math.max(0, n - 1));
            for (int season = 0; season < 4; season++) {
                Check.due("at by order " + n, x.at(0, season * 150 + 149, 5), some[n][season]);
            }
        }
        Check.due("order 13", x.order(13), 6);
        int[] thirteenth = {2, 0, 3, 1};
        for (int season = 0; season < 4; season++) {
            Check.due("at by order 13", x.at(0, season * 150 + 149, 5), thirteenth[season]);
        }
        Check.due("order 24", x.order(24), -1);
        Check.due("order -1", x.order(-1), -1);
        Check.due("order 23", x.order(23), 13);
        Check.due("last season first", x.at(0, 149, 5), 3);
    }

    private static void at() {
        DimStars x = new DimStars();
        Check.due("at without a star", x.at(0, 0, 0), -200000);
        x.star(1, 0, 1);
        put(x, 0, 0, 10, -7, 4);
        x.row(0, 450, 77);
        Check.due("as it is", x.at(0, 1, 0), -7);
        Check.due("nothing", x.at(0, 3, 0), -100000);
        Check.due("upside down", x.at(0, 1, 1), 7);
        Check.due("nothing upside down", x.at(0, 3, 1), -100000);
        Check.due("turned round", x.at(0, 0, 2), 77);
        Check.due("turned round at the end", x.at(0, 451, 2), -7);
        x.wide(1);
        // means: (10 - 7) / 2 = 1; 7 / 3 = 2; -3 / 2 = -2, all downwards
        Check.due("clean 0", x.at(0, 0, 3), 9);
        Check.due("clean 1", x.at(0, 1, 3), -9);
        Check.due("clean 2", x.at(0, 2, 3), 6);
        Check.due("clean, nothing there", x.at(0, 3, 3), -100000);
        Check.due("clean, alone", x.at(0, 450, 3), 0);
        x.wide(0);
        Check.due("clean of itself alone", x.at(0, 0, 3), 0);
        x.wide(50);
        put(x, 0, 300, 30000, -30000, -30000, -30000);
        // the mean is -15000
        Check.due("clean, held", x.at(0, 300, 3), 30000);
        int[][] wrong = {{1, 0, 0}, {-1, 0, 0}, {0, -1, 0}, {0, 600, 0}, {0, 0, -1}, {0, 0, 6}, {MOST, 0, 0}, {0, LEAST, 0}};
        for (int[] w : wrong) {
            Check.due("at with something wrong", x.at(w[0], w[1], w[2]), -200000);
        }
    }

    private static void world() {
        DimStars x = new DimStars();
        Check.due("world without a star", x.world(0, 10, 0, 1, 1, true), -1);
        x.star(1, 0, 1);
        int[][] wrong = {{1, 10, 0, 1, 1}, {-1, 10, 0, 1, 1}, {0, 1, 0, 1, 1}, {0, 600, 0, 1, 1}, {0, 10, -1, 1, 1},
            {0, 10, 600, 1, 1}, {0, 10, 0, 0, 1}, {0, 10, 0, 10, 1}, {0, 100, 0, 31, 1}, {0, 10, 0, 1, 0}, {0, 10, 0, 1, 30001}};
        for (int[] w : wrong) {
            Check.due("world with something wrong", x.world(w[0], w[1], w[2], w[3], w[4], true), -1);
        }
        Check.due("world at the low edges", x.world(0, 2, 0, 1, 1, true), 0);
        Check.due("world at the high edges", x.world(0, 599, 599, 30, 30000, false), 1);
        Check.due("long just below the beat", x.world(0, 30, 0, 29, 1, false), 2);
        for (int i = 3; i < 40; i++) {
            Check.due("world " + i, x.world(0, 10, 0, 1, 1, true), i);
        }
        Check.due("a forty-first world", x.world(0, 10, 0, 1, 1, true), -1);
        Check.due("worlds", x.count(1), 40);
    }

    private static void feedAndEnd() {
        DimStars x = new DimStars();
        Check.due("end(0)", x.end(0), 0);
        Check.due("end(1) of nothing", x.end(1), -1);
        Check.due("end(-1)", x.end(-1), -1);
        for (int i = 1; i <= 20; i++) {
            Check.due("feed", x.feed(LEAST, MOST, -1, 0, 1), 20 * i);
        }
        Check.due("feed beyond 400", x.feed(1, 2, 3, 4, 5), -1);
        Check.due("nothing came", x.count(7), 400);
        Check.due("end(401)", x.end(401), -1);
        Check.due("end(400)", x.end(400), 400);
        Check.due("end(381)", x.end(381), 381);
        Check.due("feed: 401 would be too many", x.feed(1, 2, 3, 4, 5), -1);
        Check.due("end(380)", x.end(380), 380);
        Check.due("feed: 400 are not", x.feed(1, 2, 3, 4, 5), 400);
        Check.due("end(0)", x.end(0), 0);
        // "line" "  7 " and blanks: the highest byte comes first
        Check.due("feed line 7", x.feed(0x6c696e65, 0x20203720, 0x20202020, 0x20202020, 0x20202020), 20);
        Check.due("text", x.text(1), 0);
    }

    private static void text() {
        DimStars x = new DimStars();
        Check.tape(x, "line 7");
        Check.due("no such sort", x.text(3), -1);
        Check.due("no such sort below", x.text(-1), -1);
        Check.due("nothing happened", x.count(7), 6);
        Check.due("a search is no law", x.text(0), -2 - 1);
        Check.due("the tape is empty", x.count(7), 0);
        Check.due("no law is there", x.count(2), 0);
        for (int i = 0; i < 6; i++) {
            Check.due("law " + i, Check.law(x, "bright 1"), i);
            Check.due("search " + i, Check.search(x, "line 1"), i);
            Check.due("sorter " + i, Check.sorter(x, "world 1"), i);
        }
        Check.due("a seventh law", Check.law(x, "bright 1"), -1);
        Check.due("a seventh law, wrong", x.text(0), -1);
        Check.due("the tape stays", x.count(7), 8);
        Check.due("a seventh search", x.text(1), -1);
        Check.due("a seventh sorter", x.text(2), -1);
        Check.due("laws", x.count(2), 6);
        Check.due("searches", x.count(3), 6);
        Check.due("sorters", x.count(4), 6);
    }

    private static void make() {
        DimStars x = new DimStars();
        x.star(5, 6, 7);
        Check.due("make without a law", x.make(0, 0, 0, 0, 0), -1);
        Check.law(x, "bright 99999; noise 10");
        Check.due("make", x.make(0, 0, 0, 0, 2), 3);
        // x: 12345; 1406932606; 654583775: by 65536: 0, 21468, 9988; of 21 the rest: 0, 6, 13; less 10
        Check.due("held to 20000, draw 0", x.at(0, 0, 0), 19990);
        Check.due("draw 1", x.at(0, 1, 0), 19996);
        Check.due("draw 2", x.at(0, 2, 0), 20003);
        Check.due("not made", x.at(0, 3, 0), -100000);
        Check.due("make from another hour, draws anew", x.make(0, 0, 0, 599, 599), 1);
        Check.due("draw 0 there", x.at(0, 599, 0), 19990);
        Check.due("the greatest seed", x.make(0, 0, MOST, 5, 5), 1);
        // (2^31 - 1) * 1103515245 + 12345 is -1103515245 + 12345 of 2^31: 1043980748, by 65536: 15929
        Check.due("its draw", x.at(0, 5, 0), 20000 + 15929 % 21 - 10);
        int[][] wrong = {{1, 0, 0, 0, 0}, {-1, 0, 0, 0, 0}, {0, 1, 0, 0, 0}, {0, -1, 0, 0, 0}, {0, 0, -1, 0, 0},
            {0, 0, 0, -1, 0}, {0, 0, 0, 0, 600}, {0, 0, 0, 5, 4}, {0, 0, 0, 600, 600}};
        for (int[] w : wrong) {
            Check.due("make with something wrong", x.make(w[0], w[1], w[2], w[3], w[4]), -1);
        }
        Check.due("numbers", x.count(6), 5);
        x.world(0, 100, 2, 1, 30000, false);
        x.world(0, 100, 2, 1, 30000, false);
        x.world(0, 50, 52, 2, 7, false);
        x.world(0, 2, 0, 1, 9, true);
        x.star(1, 0, 1);
        x.world(1, 2, 0, 1, 9, false);
        Check.law(x, "bright 100");
        Check.due("make all", x.make(1, 0, 0, 0, 599), 600);
        Check.due("before the first dip", x.at(0, 1, 0), 100);
        Check.due("two dips, held", x.at(0, 2, 0), -30000);
        Check.due("a dip of one world", x.at(0, 52, 0), 93);
        Check.due("its second hour", x.at(0, 53, 0), 93);
        Check.due("behind it", x.at(0, 54, 0), 100);
        Check.due("no dip before its first", x.at(0, 3, 0), 100);
        Check.due("neither of one put in nor of another star", x.at(0, 4, 0), 100);
    }

    private static void makeByWords() {
        DimStars x = new DimStars();
        x.star(1, 0, 1);
        x.star(77, 6, 9);
        Check.law(x, "bright hour * 10 + season if hour < 2 or hour >= 150 and hour < 152;"
            + "bright 0 - star * 1000 - cell * 100 - size if not [hour = 5];bright 3 if hour > 5");
        x.make(0, 1, 0, 0, 160);
        Check.due("hour 1", x.at(1, 1, 0), 10);
        Check.due("hour 151, season 1", x.at(1, 151, 0), 1511);
        Check.due("the next clause", x.at(1, 2, 0), -1677);
        Check.due("no clause", x.at(1, 5, 0), 0);
        Check.law(x, "bright 7 - 2 - 1 * 3 / 2 + 5 / 0 - size / 10 * 10");
        x.make(1, 1, 0, 0, 0);
        // 5 - 1 + 0 - 70
        Check.due("sums go from the left, / towards 0", x.at(1, 0, 0), -66);
        Check.law(x, "bright 99999*99999*99999*99999");
        x.make(2, 1, 0, 0, 0);
        long round = 99999L * 99999L * 99999L * 99999L;
        Check.due("goes round in 64 bits", x.at(1, 0, 0), round < 0 ? -20000 : 20000);
        Check.law(x, "noise 9999");
        x.make(3, 1, 0, 1, 1);
        Check.due("noise alone", x.at(1, 1, 0), -9999);
    }

    private static void tried() {
        DimStars x = dipping();
        long[] due = {20, 80, 400, 10, 125};
        for (int what = 0; what < 5; what++) {
            Check.due("tried " + what, x.tried(0, 0, 10, 2, 3, what), due[what]);
        }
        // upside down it is 400 higher there
        long[] down = {20, 80, -400, 10, 0};
        for (int what = 0; what < 5; what++) {
            Check.due("tried upside down " + what, x.tried(0, 1, 10, 2, 3, what), down[what]);
        }
        // turned round, HOURS 450 to 549 have the numbers: 453, 454, ..
        Check.due("tried turned round", x.tried(0, 2, 10, 2, 3, 4), 125);
        // in 30: 2/3 of them 600: 733.3; 266.67 downwards
        Check.due("tried a longer one, deep", x.tried(0, 0, 10, 3, 3, 2), 266);
        Check.due("tried a longer one, score", x.tried(0, 0, 10, 3, 3, 4), 266 * 266 * 30 / 25600);
        Check.due("tried elsewhere, deep", x.tried(0, 0, 10, 2, 5, 2), -100);
        int[][] wrong = {{1, 0, 10, 2, 3, 0}, {-1, 0, 10, 2, 3, 0}, {0, -1, 10, 2, 3, 0}, {0, 6, 10, 2, 3, 0},
            {0, 0, 1, 1, 0, 0}, {0, 0, 201, 2, 3, 0}, {0, 0, 10, 0, 3, 0}, {0, 0, 20, 11, 3, 0}, {0, 0, 10, 10, 3, 0},
            {0, 0, 10, 2, -1, 0}, {0, 0, 10, 2, 10, 0}, {0, 0, 10, 2, 3, -1}, {0, 0, 10, 2, 3, 5}, {0, 0, LEAST, 2, 3, 0}};
        for (int[] w : wrong) {
            Check.due("tried with something wrong", x.tried(w[0], w[1], w[2], w[3], w[4], w[5]), -200000);
        }
        Check.due("tried at the high edges", x.tried(0, 0, 200, 10, 199, 0), 9);
    }

    private static void triedAtEdges() {
        DimStars x = new DimStars();
        x.star(1, 0, 1);
        Check.due("deep without numbers", x.tried(0, 0, 5, 2, 4, 2), -100000);
        Check.due("score without numbers", x.tried(0, 0, 5, 2, 4, 4), 0);
        Check.due("dips without numbers", x.tried(0, 0, 5, 2, 4, 3), 0);
        put(x, 0, 0, -3);
        // a DIP that begins before the ROW: k = -1
        Check.due("in, a dip hangs over", x.tried(0, 0, 5, 2, 4, 0), 1);
        Check.due("dips, one hangs over", x.tried(0, 0, 5, 2, 4, 3), 1);
        Check.due("deep without out", x.tried(0, 0, 5, 2, 4, 2), -100000);
        Check.due("score without out", x.tried(0, 0, 5, 2, 4, 4), 0);
        put(x, 0, 2, 4, -100000, -5, 6, 7);
        // in: HOURS 0, 4, 5: -2 / 3; out: 2, 6: 11 / 2; deep: 6.17
        Check.due("in", x.tried(0, 0, 5, 2, 4, 0), 3);
        Check.due("out", x.tried(0, 0, 5, 2, 4, 1), 2);
        Check.due("deep", x.tried(0, 0, 5, 2, 4, 2), 6);
        Check.due("deep below 0, downwards", x.tried(0, 1, 5, 2, 4, 2), -7);
        Check.due("dips", x.tried(0, 0, 5, 2, 4, 3), 2);
        // N 5, squares 9 + 16 + 25 + 36 + 49 = 135, together 9: (675 - 81) / 25 = 23; 36 * 3 / 23
        Check.due("score", x.tried(0, 0, 5, 2, 4, 4), 4);
        DimStars y = new DimStars();
        y.star(1, 0, 1);
        put(y, 0, 0, 1, 2);
        // SPREAD (2 * 5 - 9) / 4 is 0, so 1; DEEP 1, one HOUR IN
        Check.due("spread is 1 at least", y.tried(0, 0, 2, 1, 0, 4), 1);
        Check.due("deep below 1", y.tried(0, 0, 2, 1, 1, 4), 0);
    }

    private static void found() {
        DimStars x = dipping();
        long[] due = {10, 2, 3, 400, 125, 10, 1};
        for (int what = 0; what < 7; what++) {
            Check.due("found " + what, x.found(0, 0, 0, what), due[what]);
        }
        Check.due("found turned round", x.found(0, 0, 2, 0), 10);
        int[][] wrong = {{1, 0, 0, 0}, {-1, 0, 0, 0}, {0, 1, 0, 0}, {0, -1, 0, 0}, {0, 0, -1, 0}, {0, 0, 6, 0}, {0, 0, 0, -1}, {0, 0, 0, 7}};
        for (int[] w : wrong) {
            Check.due("found with something wrong", x.found(w[0], w[1], w[2], w[3]), -2);
        }
        Check.search(x, "beat 2 20; long 1 3; line 125");
        Check.search(x, "beat 2 20; long 1 3; line 126");
        Check.due("seen at the line", x.found(1, 0, 0, 6), 1);
        Check.due("not seen below it", x.found(2, 0, 0, 6), 0);
        Check.due("found below it", x.found(2, 0, 0, 0), 10);
        Check.search(x, "least 10; beat 2 20");
        Check.search(x, "least 11; beat 10 20");
        Check.due("as many dips as least", x.found(3, 0, 0, 0), 10);
        Check.due("too few dips", x.found(4, 0, 0, 0), -1);
        Check.due("too few dips: not seen", x.found(4, 0, 0, 6), 0);
        x.row(0, 600, 0);
        Check.due("a row that changes is looked at anew", x.row(0, 3, 1000), 600);
        Check.due("its score is less", x.found(0, 0, 0, 4) < 125 ? 1 : 0, 1);
        Check.due("turned back", x.row(0, 3, 600), 1000);
        Check.due("its score is as before", x.found(0, 0, 0, 4), 125);
    }

    private static void foundBy() {
        DimStars x = new DimStars();
        x.star(1, 0, 1);
        Check.search(x, "line 0");
        for (int what = 0; what < 6; what++) {
            Check.due("nothing is found", x.found(0, 0, 0, what), -1);
        }
        Check.due("nothing is seen", x.found(0, 0, 0, 6), 0);
        // of one low HOUR every beat that has it alone is as good: the least beat, long, first
        put(x, 0, 0, 10, 10, 10, 0, 10, 10);
        // HOUR 3 alone: b = 4, l = 1, f = 3; (b = 2, 3 have others IN)
        Check.due("least beat", x.found(0, 0, 0, 0), 4);
        Check.due("least long", x.found(0, 0, 0, 1), 1);
        Check.due("first", x.found(0, 0, 0, 2), 3);
        DimStars y = new DimStars();
        y.star(1, 0, 1);
        Check.search(y, "beat 100 100; long 2 4");
        // HOUR 50 alone: long 2 with first 49 or 50, of which only 50 is in the ROW: the least first
        put(y, 0, 50, 0);
        put(y, 0, 10, 9);
        Check.due("least long of several", y.found(0, 0, 0, 1), 2);
        Check.due("least first of several", y.found(0, 0, 0, 2), 49);
        Check.search(y, "beat 5 200; long 10 10");
        Check.due("long below the beat", y.found(1, 0, 0, 0), 11);
        // without clauses: beat 2 to 100, long 1 to 5
        DimStars z = new DimStars();
        z.star(1, 0, 1);
        Check.search(z, "line 0");
        Check.search(z, "beat 2 200");
        Check.law(z, "bright 1000");
        z.world(0, 101, 0, 1, 500, false);
        z.make(0, 0, 0, 0, 599);
        Check.due("beat up to 200", z.found(1, 0, 0, 0), 101);
        Check.due("beat up to 100 without the clause", z.found(0, 0, 0, 0) <= 100 ? 1 : 0, 1);
        DimStars l = new DimStars();
        l.star(1, 0, 1);
        Check.search(l, "beat 20 30");
        Check.search(l, "beat 20 30; long 1 10");
        Check.law(l, "bright 1000");
        l.world(0, 20, 0, 7, 500, false);
        l.make(0, 0, 0, 0, 599);
        Check.due("long up to 10", l.found(1, 0, 0, 1), 7);
        Check.due("long up to 5 without the clause", l.found(0, 0, 0, 1), 5);
    }

    private static void spread() {
        DimStars x = dipping();
        Check.due("spread", x.spread(0), 25600);
        Check.due("spread without it", x.spread(1), -1);
        Check.due("spread below", x.spread(-1), -1);
        x.star(1, 0, 1);
        Check.due("spread without numbers", x.spread(1), -1);
        x.row(1, 7, -30000);
        Check.due("spread 1 at least", x.spread(1), 1);
        x.row(1, 8, 30000);
        Check.due("spread of far ones", x.spread(1), 900000000);
    }

    /** withFlat(), and PUT IN: 1: caught with beat 7; 2: too long a beat; 3: real. */
    private static DimStars withPutIn() {
        DimStars x = withFlat();
        Check.due("put in 1", x.world(1, 7, 2, 1, 100, true), 1);
        Check.due("put in 2", x.world(1, 300, 2, 1, 100, true), 2);
        Check.due("real 3", x.world(1, 7, 2, 1, 100, false), 3);
        return x;
    }

    private static void catches() {
        DimStars x = withPutIn();
        Check.due("caught", x.catches(0, 1), 1);
        Check.due("not caught", x.catches(0, 2), 0);
        Check.due("real ones", x.catches(0, 0), -1);
        Check.due("real ones too", x.catches(0, 3), -1);
        Check.due("no world", x.catches(0, 4), -1);
        Check.due("world below", x.catches(0, -1), -1);
        Check.due("no search", x.catches(1, 1), -1);
        Check.due("the row is as it was", x.at(1, 2, 0), 1000);
        // 14 HOURS IN, DEEP 100, SPREAD 100 * 100 * 14 * 86 / 10000 = 1204: SCORE 116
        Check.search(x, "beat 2 20; long 1 3; line 116");
        Check.search(x, "beat 2 20; long 1 3; line 117");
        Check.due("caught at the line", x.catches(1, 1), 1);
        Check.due("not below it", x.catches(2, 1), 0);
        DimStars y = dipping();
        y.world(0, 17, 0, 1, 1, true);
        Check.due("found with another beat", y.catches(0, 1), 0);
        y.world(0, 10, 7, 1, 1, true);
        Check.due("the beat alone counts", y.catches(0, 2), 1);
        DimStars z = new DimStars();
        z.star(1, 0, 1);
        put(z, 0, 0, 0, 0, -29000, 0, 0, -29000, 0, 0, -29990);
        Check.search(z, "beat 3 3; long 1 1");
        z.world(0, 3, 2, 1, 30000, true);
        Check.due("held to -30000", z.catches(0, 0), 1);
        z.row(0, 3, -100000);
        Check.due("numbers alone are lowered", z.catches(0, 0), 1);
    }

    private static void share() {
        DimStars x = withPutIn();
        Check.due("share above", x.share(0, 0), 1);
        Check.due("share below", x.share(0, 1), 2);
        x.world(1, 7, 2, 1, 100, true);
        x.world(1, 400, 2, 1, 100, true);
        Check.due("lowest terms above", x.share(0, 0), 1);
        Check.due("lowest terms below", x.share(0, 1), 2);
        Check.due("no part 2", x.share(0, 2), -1);
        Check.due("no part -1", x.share(0, -1), -1);
        Check.due("no search", x.share(1, 0), -1);
        DimStars y = dipping();
        Check.due("none put in above", y.share(0, 0), 0);
        Check.due("none put in below", y.share(0, 1), 0);
        y.world(0, 300, 0, 1, 1, true);
        y.world(0, 300, 0, 1, 1, true);
        Check.due("none caught above", y.share(0, 0), 0);
        Check.due("none caught below", y.share(0, 1), 1);
    }

    private static void chance() {
        DimStars x = withFlat();
        Check.due("as they are", x.chance(0, 0, 0), 1);
        Check.due("at the score", x.chance(0, 125, 0), 1);
        Check.due("above it", x.chance(0, 126, 0), 0);
        Check.due("turned round", x.chance(0, 125, 2), 1);
        Check.due("upside down", x.chance(0, 0, 1), 1);
        x.row(1, 50, 1500);
        // one HOUR of 100 is 500 above the others
        Check.due("two upside down", x.chance(0, 0, 1), 2);
        Check.due("the line may lie above that of the search", x.chance(0, 999999, 1), 0);
        Check.due("line -1", x.chance(0, -1, 1), -1);
        Check.due("line 1000000", x.chance(0, 1000000, 1), -1);
        Check.due("no search", x.chance(1, 0, 1), -1);
        Check.due("no way", x.chance(0, 0, 6), -1);
        Check.due("no way below", x.chance(0, 0, -1), -1);
        Check.search(x, "beat 2 20; line 99999");
        Check.due("the line of the search is not asked", x.chance(1, 0, 0), 2);
    }

    private static void line() {
        DimStars x = withFlat();
        x.row(1, 50, 1500);
        Check.search(x, "beat 20 20; long 1 1");
        // upside down: beat 20, first 10 has HOUR 50 and four others: DEEP 100, SPREAD 2475, SCORE 20
        Check.due("score upside down", x.found(1, 1, 1, 4), 20);
        Check.due("score of the dips upside down", x.found(1, 0, 1, 4), x.tried(0, 1, 20, 1, (int) x.found(1, 0, 1, 2), 4));
        long dips = x.found(1, 0, 1, 4);
        // HOURS IN: 5 at 1000 all: mean OUT 915.8 upside down -915.8: DEEP 84, SPREAD 25600
        Check.due("its score", dips, 84 * 84 * 5 / 25600);
        Check.due("a line above both", x.line(1, 3, 10, 7, 0), 21);
        Check.due("nothing is lost or kept", x.line(1, 3, 10, 7, 1), 0);
        Check.due("all lines below", x.line(1, 1, 10, 7, 0), 2);
        Check.due("one is kept then", x.line(1, 1, 10, 7, 1), 7);
        Check.due("no weight: the least line", x.line(1, 1, 0, 0, 0), 0);
        // PUT IN: beat 20, in the flat STAR but for its HOUR 50: 10, 30, .. 90 less 1000
        x.world(1, 20, 10, 1, 1000, true);
        x.world(1, 19, 10, 1, 1000, true);
        long with = scoreWithPutIn();
        Check.due("what is put in is found with " + with, with > 21 && with < 400 ? 1 : 0, 1);
        Check.due("above the upside down one, below that put in", x.line(1, 21, 10, 7, 0), 21);
        Check.due("the other one is lost", x.line(1, 21, 10, 7, 1), 10);
        Check.due("line 0 keeps two", x.line(1, 99999, 10, 3, 0), 0);
        Check.due("they weigh 6, one lost 10", x.line(1, 99999, 10, 3, 1), 16);
        Check.due("far above: two lost", x.line(1, 99999, 2, 3, 0), 99999);
        Check.due("they weigh 4", x.line(1, 99999, 2, 3, 1), 4);
        int[][] wrong = {{2, 1, 1, 1, 0}, {-1, 1, 1, 1, 0}, {0, 0, 1, 1, 0}, {0, 100000, 1, 1, 0}, {0, 1, -1, 1, 0},
            {0, 1, 1000, 1, 0}, {0, 1, 1, -1, 0}, {0, 1, 1, 1000, 0}, {0, 1, 1, 1, -1}, {0, 1, 1, 1, 2}};
        for (int[] w : wrong) {
            Check.due("line with something wrong", x.line(w[0], w[1], w[2], w[3], w[4]), -1);
        }
    }

    private static long scoreWithPutIn() {
        DimStars x = new DimStars();
        x.star(1, 0, 1);
        Check.law(x, "bright 500 if hour = 50; bright 0 if hour / 20 * 20 + 10 = hour; bright 1000");
        Check.search(x, "beat 20 20; long 1 1");
        x.make(0, 0, 0, 0, 99);
        return x.found(0, 0, 0, 4);
    }

    private static void sign() {
        DimStars x = withFlat();
        int[] due = {400, 400, 0, 0, 0, 0};
        for (int what = 0; what < 6; what++) {
            Check.due("sign " + what, x.sign(0, 0, what), due[what]);
        }
        Check.due("nothing is found", x.sign(0, 1, 0), -200000);
        Check.due("nothing is found, same", x.sign(0, 1, 4), -200000);
        Check.due("no star", x.sign(0, 2, 0), -200000);
        Check.due("no search", x.sign(1, 0, 0), -200000);
        Check.due("no sign -1", x.sign(0, 0, -1), -200000);
        Check.due("no sign 6", x.sign(0, 0, 6), -200000);
        // every second dip is 401 deep: all DIPS with odd k, HOURS 13, 14, 33, 34, ..
        for (int k = 1; k < 10; k += 2) {
            put(x, 0, 3 + 10 * k, 599, 599);
        }
        Check.due("even", x.sign(0, 0, 0), 400);
        Check.due("odd ones", x.sign(0, 0, 1), 401);
        Check.due("odd", x.sign(0, 0, 2), 1);
        for (int k = 0; k < 10; k += 2) {
            put(x, 0, 3 + 10 * k, 590, 590);
        }
        Check.due("odd without sign", x.sign(0, 0, 2), 9);
    }

    private static void signsOfMore() {
        DimStars x = new DimStars();
        x.star(1, 0, 1);
        x.star(1, 0, 1);
        x.star(1, 0, 1);
        Check.law(x, "bright 1000");
        Check.search(x, "beat 20 20; long 1 10");
        x.make(0, 0, 0, 0, 599);
        // a DIP of four HOURS: edges 900 and 880, middle 800 and 790: l / 3 = 1
        for (int h = 5; h < 600; h += 20) {
            put(x, 0, h, 900, 800, 790, 880);
        }
        Check.due("long", x.found(0, 0, 0, 1), 4);
        Check.due("shape: 205 less 110", x.sign(0, 0, 3), 95);
        oneDipAlone();
        same();
    }

    private static void oneDipAlone() {
        DimStars x = new DimStars();
        x.star(1, 0, 1);
        Check.search(x, "beat 200 200; long 3 3");
        // with even k: no odd ones
        put(x, 0, 50, 9, 9, 9, 1, 2, 1, 9, 9);
        Check.due("first", x.found(0, 0, 0, 2), 53);
        Check.due("even, 9 - 4/3", x.sign(0, 0, 0), 7);
        Check.due("no odd one", x.sign(0, 0, 1), -100000);
        Check.due("odd is 0 then", x.sign(0, 0, 2), 0);
        Check.due("shape: 7 less 8", x.sign(0, 0, 3), -1);
        x.row(0, 54, -100000);
        Check.due("no middle", x.sign(0, 0, 3), 0);
        // a DIP that hangs over the begin has k = -1: odd
        for (int h = 50; h < 58; h++) {
            x.row(0, h, -100000);
        }
        put(x, 0, 0, 1, 9, 9, 9);
        x.row(0, 199, 5);
        Check.due("first at the end of the beat", x.found(0, 0, 0, 2), 198);
        Check.due("dips", x.found(0, 0, 0, 5), 2);
        Check.due("k = 0 is even", x.sign(0, 0, 0), 4);
        Check.due("k = -1 is odd", x.sign(0, 0, 1), 8);
    }

    private static void same() {
        DimStars x = dipping();
        for (int i = 1; i < 4; i++) {
            x.star(1, 0, 1);
        }
        x.world(1, 10, 3, 3, 900, false);
        x.world(2, 10, 4, 2, 900, false);
        x.world(3, 5, 3, 2, 900, false);
        for (int i = 1; i < 4; i++) {
            x.make(0, i, 0, 0, 99);
        }
        // the same beat and first with another long and deep: 1; another first or beat: not
        Check.due("same", x.sign(0, 0, 4), 1);
        Check.due("same of the other", x.sign(0, 1, 4), 1);
        Check.due("another first", x.sign(0, 2, 4), 0);
        Check.due("another beat", x.sign(0, 3, 4), 0);
        // STAR 1: 30 IN at 100, 70 at 1000: SPREAD 810000 * .21 = 170100; SCORE 810000 * 30 / 170100 = 142
        Check.search(x, "beat 2 20; long 1 3; line 130");
        Check.due("one that is seen", x.sign(1, 0, 4), 1);
        Check.due("one that is not seen", x.sign(1, 1, 4), 0);
    }

    private static void shift() {
        DimStars x = dipping();
        Check.due("shift", x.shift(0, 0, 0), 0);
        Check.due("the last one", x.shift(0, 0, 9), 0);
        Check.due("without numbers", x.shift(0, 0, 11), -100);
        Check.due("k = 300", x.shift(0, 0, 300), -100);
        Check.due("k = 301", x.shift(0, 0, 301), -200);
        Check.due("k = -2", x.shift(0, 0, -2), -200);
        Check.due("k = -1, HOURS -7 + 3 and one more are before the row", x.shift(0, 0, -1), -100);
        Check.due("no star", x.shift(0, 1, 0), -200);
        Check.due("no search", x.shift(1, 0, 0), -200);
        // a dip that comes soon, and one that comes late
        put(x, 0, 23, 1000, 1000);
        put(x, 0, 20, 600, 600);
        put(x, 0, 43, 1000, 600, 600);
        Check.due("still found so", x.found(0, 0, 0, 2), 3);
        Check.due("soon", x.shift(0, 0, 2), -3);
        Check.due("late", x.shift(0, 0, 4), 1);
        Check.due("late less soon", x.sign(0, 0, 5), 4);
        // alike: nearest to 0, then below it
        put(x, 0, 50, 1000, 600, 600, 1000, 1000, 600, 600);
        Check.due("-2 and 2 are alike", x.shift(0, 0, 5), -2);
        put(x, 0, 60, 600, 600, 1000, 1000, 600, 600);
        Check.due("1 is nearer than -3", x.shift(0, 0, 6), 1);
        // exactly: windows with one number count by that number
        put(x, 0, 70, 1000, 1000, 1000, 600, 600, -100000, 599);
        Check.due("the mean of one number", x.shift(0, 0, 7), 2);
        Check.due("of 600 and 599 and of 599 alone", x.shift(0, 0, 7), 2);
        DimStars y = new DimStars();
        y.star(1, 0, 1);
        Check.search(y, "beat 10 10; long 2 2");
        put(y, 0, 0, 5, 5, 5, 5, 5, 5, 5, 5, 5, 1, 1);
        Check.due("first 9", y.found(0, 0, 0, 2), 9);
        Check.due("k = -1 has HOUR 0 and so 3 more", y.shift(0, 0, -1), 0);
        Check.due("k = 1 begins at 19", y.shift(0, 0, 1), -100);
    }

    private static DimStars withSorter(String text) {
        DimStars x = withFlat();
        Check.due("sorter", Check.sorter(x, text), 0);
        return x;
    }

    private static void weight() {
        DimStars x = withSorter("world beat * 1000 + long * 100 + dips if score = 125; world 5 if deep = 400;"
            + "world 7 if same > 0; pair 0 - 5; spot 99999 * 2; glass size; glass 0 - odd - shape - late if beat > 9;"
            + "world 1 if not [late = 0 and odd = 0 and shape = 0]");
        int[] due = {10215, 0, 99999, 100, 0};
        for (int sort = 0; sort < 5; sort++) {
            Check.due("weight " + sort, x.weight(0, 0, 0, sort), due[sort]);
        }
        Check.due("no sort 5", x.weight(0, 0, 0, 5), -1);
        Check.due("no sort -1", x.weight(0, 0, 0, -1), -1);
        Check.due("nothing is found", x.weight(0, 0, 1, 0), -1);
        Check.due("no star", x.weight(0, 0, 2, 0), -1);
        Check.due("no search", x.weight(0, 1, 0, 0), -1);
        Check.due("no sorter", x.weight(1, 0, 0, 0), -1);
        x.resize(0, 321);
        Check.due("size as it is", x.weight(0, 0, 0, 3), 321);
        // all is together before it is held
        Check.sorter(x, "world 99999 * 99999; world 0 - 99999 * 99999; world 3; pair 9; pair 0 - 10");
        Check.due("held at the end alone", x.weight(1, 0, 0, 0), 3);
        Check.due("held to 0", x.weight(1, 0, 0, 1), 0);
    }

    private static void sorted() {
        DimStars x = withSorter("glass 5; spot 5; pair 4");
        Check.due("the greatest, of several the first", x.sorted(0, 0, 0), 2);
        Check.sorter(x, "world 0; pair 0 - 1");
        Check.due("all weights are 0", x.sorted(1, 0, 0), -2);
        Check.sorter(x, "chance 1");
        Check.due("chance", x.sorted(2, 0, 0), 4);
        Check.due("nothing is found", x.sorted(0, 0, 1), -1);
        Check.due("no star", x.sorted(0, 0, 2), -1);
        Check.due("no search", x.sorted(0, 1, 0), -1);
        Check.due("no sorter", x.sorted(3, 0, 0), -1);
    }

    private static void odds() {
        DimStars x = withSorter("world 6; pair 4; chance 2");
        int[][] due = {{1, 2}, {1, 3}, {0, 1}, {0, 1}, {1, 6}};
        for (int sort = 0; sort < 5; sort++) {
            Check.due("odds above " + sort, x.odds(0, 0, 0, sort, 0), due[sort][0]);
            Check.due("odds below " + sort, x.odds(0, 0, 0, sort, 1), due[sort][1]);
        }
        Check.sorter(x, "world 0");
        Check.due("all are 0 above", x.odds(1, 0, 0, 0, 0), 0);
        Check.due("all are 0 below", x.odds(1, 0, 0, 0, 1), 0);
        int[][] wrong = {{2, 0, 0, 0, 0}, {0, 1, 0, 0, 0}, {0, 0, 2, 0, 0}, {0, 0, 1, 0, 0}, {0, 0, 0, 5, 0}, {0, 0, 0, -1, 0}, {0, 0, 0, 0, 2}, {0, 0, 0, 0, -1}};
        for (int[] w : wrong) {
            Check.due("odds with something wrong", x.odds(w[0], w[1], w[2], w[3], w[4]), -1);
        }
    }

    private static void truly() {
        DimStars x = withSorter("world 1 if deep = 400");
        Check.due("none is put in", x.truly(0, 0), -2);
        x.world(1, 300, 0, 1, 1, true);
        Check.due("none is caught", x.truly(0, 0), -2);
        x.world(1, 7, 2, 1, 100, true);
        x.world(1, 7, 3, 1, 100, true);
        // 3 by 2 caught; luck 500: 3000000 / 1000
        Check.due("truly", x.truly(0, 0), 3000);
        x.star(50, 0, 700);
        x.world(2, 10, 3, 2, 400, false);
        x.make(0, 2, 0, 0, 99);
        // 3000000 / 1400 = 2142.8
        Check.due("each downwards", x.truly(0, 0), 5142);
        Check.search(x, "beat 2 20; long 1 3; line 116");
        Check.search(x, "beat 2 20; long 1 3; line 126");
        Check.due("seen at the line", x.truly(1, 0), 5142);
        Check.due("caught no more", x.truly(2, 0), -2);
        Check.sorter(x, "world 1; pair 2");
        Check.due("sorted otherwise", x.truly(0, 1), 0);
        Check.sorter(x, "pair 0");
        Check.due("no weight", x.truly(0, 2), 0);
        Check.due("no search", x.truly(3, 0), -1);
        Check.due("no sorter", x.truly(0, 3), -1);
        Check.due("below", x.truly(-1, -1), -1);
    }

    private static void bound() {
        DimStars x = withFlat();
        Check.due("none is put in", x.bound(0, 1000), -2);
        x.world(1, 300, 0, 1, 1, true);
        Check.due("none is caught", x.bound(0, 1000), -2);
        x.world(1, 7, 2, 1, 100, true);
        // p = 500: 500000, 250000, 125000, 62500, 31250
        Check.due("bound", x.bound(0, 1000), 5);
        Check.due("p is 0", x.bound(0, 1), -2);
        // p = 1
        long v = 1000000;
        int often = 0;
        while (v >= 50000) {
            v = v * 999 / 1000;
            often++;
        }
        Check.due("p is 1", x.bound(0, 2), often);
        Check.due("p is 1, downwards", x.bound(0, 3), often);
        Check.due("luck 0", x.bound(0, 0), -1);
        Check.due("luck 1001", x.bound(0, 1001), -1);
        Check.due("no search", x.bound(1, 5), -1);
        DimStars y = withFlat();
        y.world(1, 7, 2, 1, 100, true);
        Check.due("p is 1000", y.bound(0, 1000), 1);
        // 50000 is not below: 1000000 * .05 needs one more
        Check.due("p is 950", y.bound(0, 950), 2);
        Check.due("p is 951", y.bound(0, 951), 1);
    }

    private static void second() {
        DimStars x = withFlat();
        for (int what = 0; what < 6; what++) {
            Check.due("nothing is found there", x.second(0, 0, what), -1);
        }
        Check.due("6: 0", x.second(0, 0, 6), 0);
        Check.due("nothing is found first", x.second(0, 1, 0), -2);
        Check.due("nothing is found first, 6", x.second(0, 1, 6), -2);
        Check.due("no star", x.second(0, 2, 0), -2);
        Check.due("no search", x.second(1, 0, 0), -2);
        Check.due("no what 7", x.second(0, 0, 7), -2);
        Check.due("no what -1", x.second(0, 0, -1), -2);
        // a second world: beat 15, first 6: HOURS 6, 21, 36, 51, 66, 81, 96; of these none is IN of the first
        x.world(0, 15, 6, 1, 100, false);
        x.make(0, 0, 0, 0, 99);
        Check.due("the first one", x.found(0, 0, 0, 0), 10);
        long[] due = {15, 1, 6, 100, 0, 7, 1};
        // 80 numbers, 7 of them less 100: SPREAD 10000 * 7 * 73 / 6400 = 798; 70000 / 798 = 87
        due[4] = 87;
        for (int what = 0; what < 7; what++) {
            Check.due("second " + what, x.second(0, 0, what), due[what]);
        }
        Check.search(x, "beat 2 20; long 1 3; line 88");
        Check.due("not seen", x.second(1, 0, 6), 0);
        Check.due("but found", x.second(1, 0, 0), 15);
    }

    private static void next() {
        DimStars x = withFlat();
        int[][] due = {{0, 3}, {3, 3}, {4, 13}, {13, 13}, {14, 23}, {600, 603}, {99999, 100003}};
        for (int[] d : due) {
            Check.due("next from " + d[0], x.next(0, 0, d[0]), d[1]);
        }
        Check.due("nothing is found", x.next(0, 1, 0), -2);
        Check.due("hour -1", x.next(0, 0, -1), -1);
        Check.due("hour 100000", x.next(0, 0, 100000), -1);
        Check.due("no star", x.next(0, 2, 0), -1);
        Check.due("no search", x.next(1, 0, 0), -1);
    }

    private static void alias() {
        DimStars x = withFlat();
        Check.due("as found", x.alias(0, 0, 0), 0);
        // 10 IN at 600... of beat 20, long 2: OUT 90, mean 955.6: DEEP 355; 126025 * 10 / 25600
        Check.due("twice", x.alias(0, 0, 1), 49);
        // beat 5, first 3: 40 IN, mean 800: DEEP 200; 40000 * 40 / 25600
        Check.due("half", x.alias(0, 0, 2), 62);
        Check.due("nothing is found", x.alias(0, 1, 0), -2);
        Check.due("no star", x.alias(0, 2, 0), -1);
        Check.due("no search", x.alias(1, 0, 0), -1);
        Check.due("no what 3", x.alias(0, 0, 3), -1);
        Check.due("no what -1", x.alias(0, 0, -1), -1);
        // a SEARCH that knows beat 5 alone, of a STAR whose beat is 10 with first 8 (5 + 3)
        DimStars y = new DimStars();
        y.star(1, 0, 1);
        y.world(0, 10, 8, 2, 400, false);
        Check.law(y, "bright 1000");
        y.make(0, 0, 0, 0, 99);
        Check.search(y, "beat 5 5; long 2 2");
        Check.search(y, "beat 20 20; long 2 2");
        Check.search(y, "beat 101 101; long 2 2");
        Check.due("twice is better", y.alias(0, 0, 0), 1);
        Check.due("twice, at f + b", y.alias(0, 0, 1), 125);
        Check.due("an odd beat has no half", y.alias(0, 0, 2), 0);
        Check.due("first 8", y.found(1, 0, 0, 2), 8);
        Check.due("half is better", y.alias(1, 0, 0), 2);
        Check.due("half", y.alias(1, 0, 2), 125);
        Check.due("no twice above 200", y.alias(2, 0, 1), 0);
        DimStars z = new DimStars();
        z.star(1, 0, 1);
        Check.search(z, "beat 4 4; long 2 2");
        Check.search(z, "beat 6 6; long 2 2");
        put(z, 0, 0, 9, 9, 1, 1, 9, 9, 9);
        Check.due("long is not below the half", z.alias(0, 0, 2), 0);
        // beat 3, first 2: HOURS 0, 2, 3, 5, 6: mean 5.8, OUT 9: DEEP 3; N 7, squares 407, together 47: SPREAD 640 / 49 = 13
        Check.due("long is just below the half", z.alias(1, 0, 2), 9 * 5 / 13);
    }

    private static void radius() {
        DimStars x = withFlat();
        // 400 * 100 * 100 = 4000000: 36 * 100000 is not above, 49 * 100000 is
        Check.due("radius", x.radius(0, 0), 6);
        x.resize(0, 999);
        // 400 * 998001 = 399200400: 63 * 63 = 3969, 64 * 64 = 4096
        Check.due("radius of a large one", x.radius(0, 0), 63);
        x.resize(0, 50);
        // 1000000 is 10 * 100000: 3
        Check.due("radius of a small one", x.radius(0, 0), 3);
        x.resize(0, 500);
        // 400 * 250000 = 1000 * 100000: 31 * 31 = 961
        Check.due("radius 31", x.radius(0, 0), 31);
        Check.due("nothing is found", x.radius(0, 1), -2);
        Check.due("no star", x.radius(0, 2), -1);
        Check.due("no search", x.radius(1, 0), -1);
        DimStars y = new DimStars();
        y.star(100, 0, 1);
        Check.law(y, "bright 1000");
        y.world(0, 10, 3, 2, 90, false);
        y.make(0, 0, 0, 0, 99);
        Check.search(y, "beat 2 20");
        // 90 * 10000 = 9 * 100000: 3 exactly
        Check.due("not above: alike is fine", y.radius(0, 0), 3);
    }

    private static void many() {
        DimStars x = withSorter("world 1 if deep > 100; pair 1");
        x.row(1, 50, 1500);
        Check.due("many", x.many(0, 0, 0, 1000, 0), 1);
        Check.due("at the radius", x.many(0, 0, 6, 6, 0), 1);
        Check.due("above", x.many(0, 0, 7, 1000, 0), 0);
        Check.due("below", x.many(0, 0, 0, 5, 0), 0);
        // upside down: STAR 1 with five HOURS IN, DEEP 100, size 200: 40 * 100000: 6;
        // STAR 0 with beat 5, first 0, long 3: 60 IN at 1000, OUT 800: DEEP 200, size 100: 20 * 100000: 4
        Check.due("false ones", x.many(0, 0, 6, 6, 1), 1);
        Check.due("other false ones", x.many(0, 0, 4, 4, 1), 1);
        Check.due("all false ones", x.many(0, 0, 0, 1000, 1), 2);
        Check.due("none between", x.many(0, 0, 5, 5, 1), 0);
        Check.search(x, "beat 2 20; long 1 3; line 126");
        Check.due("not seen", x.many(1, 0, 0, 1000, 0), 0);
        Check.due("false ones not seen", x.many(1, 0, 0, 1000, 1), 0);
        Check.sorter(x, "world 1; pair 2");
        Check.due("sorted otherwise", x.many(0, 1, 0, 1000, 0), 0);
        Check.due("false ones are not sorted", x.many(0, 1, 0, 1000, 1), 2);
        int[][] wrong = {{2, 0, 0, 5, 0}, {0, 2, 0, 5, 0}, {0, 2, 0, 5, 1}, {0, 0, -1, 5, 0}, {0, 0, 6, 5, 0}, {0, 0, 0, 5, 2}, {0, 0, 0, 5, -1}};
        for (int[] w : wrong) {
            Check.due("many with something wrong", x.many(w[0], w[1], w[2], w[3], w[4]), -1);
        }
        Check.due("to may be far", x.many(0, 0, 0, MOST, 0), 1);
    }

    private static void finest() {
        DimStars x = withFlat();
        Check.due("the one search", x.finest(), 0);
        Check.search(x, "beat 2 20; long 1 3; line 99999");
        Check.search(x, "beat 2 20; long 1 3; line 99999");
        // none CATCHES; upside down the first one sees STAR 0
        Check.due("the fewest seen upside down, the least number", x.finest(), 1);
        x.world(1, 7, 2, 1, 100, true);
        Check.due("that which catches most", x.finest(), 0);
    }

    private static void room() {
        DimStars x = withPutIn();
        Check.due("without least", x.room(0, 0), 4);
        Check.search(x, "least 3");
        Check.due("least 3: begins 3, 13, 23", x.room(1, 0), 24);
        Check.due("put in too", x.room(1, 2), 603);
        Check.due("no world", x.room(0, 4), -1);
        Check.due("no search", x.room(2, 0), -1);
        Check.due("below", x.room(0, -1), -1);
    }

    private static void other() {
        DimStars x = withFlat();
        Check.due("other", x.other(0, 0, 0), 0);
        Check.due("round", x.other(0, 0, 1), 1);
        Check.due("nothing is found", x.other(0, 1, 0), -2);
        Check.due("no star", x.other(0, 2, 0), -3);
        Check.due("no search", x.other(1, 0, 0), -3);
        Check.due("no what 2", x.other(0, 0, 2), -3);
        Check.due("no what -1", x.other(0, 0, -1), -3);
        // every third dip comes one HOUR late
        for (int k = 1; k < 10; k += 3) {
            put(x, 0, 3 + 10 * k, 1000, 600, 600);
        }
        Check.due("still found so", x.found(0, 0, 0, 2), 3);
        Check.due("three come late", x.other(0, 0, 0), 3);
        Check.due("round by three", x.other(0, 0, 1), 3);
        put(x, 0, 73, 600, 600, 1000);
        // 1 and 4 alone are late: each p up to 8 has one of them and one that is not
        Check.due("two come late", x.other(0, 0, 0), 2);
        Check.due("round by 9: 0 and 9", x.other(0, 0, 1), 9);
        DimStars y = new DimStars();
        y.star(1, 0, 1);
        put(y, 0, 0, 9, 9, 9, 1, 9, 9);
        Check.search(y, "beat 50 50");
        Check.due("one dip alone has no round", y.other(0, 0, 1), -1);
    }

    private static void fold() {
        DimStars x = dipping();
        Check.due("fold, how many", x.fold(0, 0, 10, 3, 0), 10);
        Check.due("fold, together", x.fold(0, 0, 10, 3, 1), 6000);
        Check.due("fold upside down", x.fold(0, 1, 10, 5, 1), -10000);
        // turned round, HOURS 450 to 549 have the numbers
        Check.due("fold turned round", x.fold(0, 2, 200, 50, 0), 1);
        Check.due("fold turned round behind them", x.fold(0, 2, 200, 150, 0), 0);
        Check.due("fold of few", x.fold(0, 0, 200, 99, 0), 1);
        Check.due("fold of none", x.fold(0, 0, 200, 199, 1), 0);
        int[][] wrong = {{1, 0, 10, 3, 0}, {-1, 0, 10, 3, 0}, {0, 6, 10, 3, 0}, {0, -1, 10, 3, 0}, {0, 0, 1, 0, 0},
            {0, 0, 201, 3, 0}, {0, 0, 10, -1, 0}, {0, 0, 10, 10, 0}, {0, 0, 10, 3, 2}, {0, 0, 10, 3, -1}};
        for (int[] w : wrong) {
            Check.due("fold with something wrong", x.fold(w[0], w[1], w[2], w[3], w[4]), -1000000000);
        }
    }

    private static void nights() {
        DimStars x = new DimStars();
        Check.due("candidate without a star", x.candidate(0, 1, 1), -1);
        x.star(1, 0, 1);
        Check.due("the empty set", x.nights(9999, 0), 0);
        int[][] wrong = {{1, 1, 1}, {-1, 1, 1}, {0, 0, 1}, {0, 100, 1}, {0, 1, -1}, {0, 1, 10000}};
        for (int[] w : wrong) {
            Check.due("candidate with something wrong", x.candidate(w[0], w[1], w[2]), -1);
        }
        Check.due("candidate 0", x.candidate(0, 5, 10), 0);
        Check.due("candidate 1", x.candidate(0, 4, 10), 1);
        Check.due("candidate 2", x.candidate(0, 4, 10), 2);
        Check.due("candidate 3", x.candidate(0, 99, 9999), 3);
        Check.due("candidate 4, worth nothing", x.candidate(0, 1, 0), 4);
        Check.due("the fewest nights, then the least number", x.nights(5, 0), 2);
        Check.due("worth", x.nights(5, 1), 10);
        Check.due("two of them, the fewest nights", x.nights(9, 0), 6);
        Check.due("their worth", x.nights(9, 1), 20);
        Check.due("three", x.nights(13, 0), 7);
        Check.due("the dear one alone", x.nights(99, 0), 8);
        Check.due("all that is worth something", x.nights(9999, 0), 15);
        Check.due("its worth", x.nights(9999, 1), 10029);
        Check.due("no nights", x.nights(0, 0), 0);
        Check.due("no nights' worth", x.nights(0, 1), 0);
        Check.due("nights -1", x.nights(-1, 0), -1);
        Check.due("nights 10000", x.nights(10000, 0), -1);
        Check.due("no what 2", x.nights(5, 2), -1);
        Check.due("no what -1", x.nights(5, -1), -1);
        for (int i = 5; i < 12; i++) {
            Check.due("candidate " + i, x.candidate(0, 1, 1), i);
        }
        Check.due("a thirteenth", x.candidate(0, 1, 1), -1);
        Check.due("candidates", x.count(5), 12);
        Check.due("all", x.nights(9999, 0), 4095 - 16);
    }

    private static void count() {
        DimStars x = withPutIn();
        Check.sorter(x, "world 1");
        Check.sorter(x, "world 1");
        x.candidate(0, 1, 1);
        x.feed(0, 0, 0, 0, 0);
        int[] due = {2, 4, 1, 1, 2, 1, 200, 20};
        for (int what = 0; what < 8; what++) {
            Check.due("count " + what, x.count(what), due[what]);
        }
        Check.due("count -1", x.count(-1), -1);
        Check.due("count 8", x.count(8), -1);
    }

    private static void images() {
        DimStars x = dipping();
        x.candidate(0, 3, 4);
        x.mask(0, 1, 100);
        x.wide(7);
        x.order(9);
        Check.due("image -1", x.image(-1), -1);
        Check.due("image 4", x.image(4), -1);
        Check.due("back to one never made", x.back(3), -1);
        Check.due("back -1", x.back(-1), -1);
        Check.due("back 4", x.back(4), -1);
        Check.due("image 3", x.image(3), 1);
        x.star(9, 1, 2);
        x.world(1, 10, 0, 1, 1, true);
        x.candidate(1, 5, 9);
        x.row(0, 3, 900);
        x.row(1, 0, 1);
        x.resize(0, 7);
        x.mask(0, 0, 0);
        x.wide(8);
        x.order(10);
        Check.search(x, "line 5");
        Check.due("image 0", x.image(0), 2);
        Check.due("back to 3", x.back(3), 1);
        Check.due("stars", x.count(0), 1);
        Check.due("worlds", x.count(1), 1);
        Check.due("candidates", x.count(5), 1);
        Check.due("texts stay", x.count(3), 2);
        Check.due("row", x.at(0, 3, 0), 600);
        Check.due("masked", x.at(0, 3, 4), -100000);
        Check.due("what is found", x.found(0, 0, 0, 4), 125);
        Check.due("size", x.resize(0, 100), 100);
        Check.due("wide", x.wide(7), 7);
        Check.due("order", x.order(9), 9);
        Check.due("worth", x.nights(9999, 1), 4);
        x.row(0, 4, 5);
        Check.due("back to 3 once more", x.back(3), 1);
        Check.due("the image has stayed", x.at(0, 4, 0), 600);
        Check.due("back to 0", x.back(0), 2);
        Check.due("wide there", x.wide(8), 8);
        Check.due("order there", x.order(10), 10);
        Check.due("row there", x.at(1, 0, 0), 1);
        Check.due("size there", x.resize(0, 7), 7);
        Check.due("worlds there", x.count(1), 2);
        Check.due("not masked there", x.at(0, 3, 4), 900);
        Check.due("worth there", x.nights(9999, 1), 13);
        Check.due("back to 3 again", x.back(3), 1);
        Check.due("a new star is empty", x.star(1, 1, 1), 1);
        Check.due("its row is empty", x.at(1, 0, 0), -100000);
        Check.due("an image may be made again", x.image(3), 2);
        Check.due("and gone back to", x.back(3), 2);
        x.feed(1, 2, 3, 4, 5);
        x.image(2);
        x.end(7);
        x.back(2);
        Check.due("the tape is as it was", x.count(7), 20);
    }
}
