/** Edges at which two readings or two ways to write it would part, worked out by hand. */
public final class EdgesTest {
    private EdgesTest() {
    }

    public static void main(String[] args) {
        allOrders();
        lookedAtAnew();
        firstHour();
        meansOfMasks();
        spreads();
        beatTwo();
        leastWithDipsOverTheEnds();
        rounds();
        dipBeforeTheRow();
        wordsOfASorter();
        aliasesAlike();
        lucks();
        farNumbers();
        fullHouse();
        Check.end();
    }

    private static void put(DimStars x, int star, int from, int... numbers) {
        for (int i = 0; i < numbers.length; i++) {
            x.row(star, from + i, numbers[i]);
        }
    }

    private static DimStars oneStar(String search) {
        DimStars x = new DimStars();
        x.star(1, 0, 1);
        Check.due(search, Check.search(x, search), 0);
        return x;
    }

    private static void allOrders() {
        DimStars x = new DimStars();
        x.star(1, 0, 1);
        for (int season = 0; season < 4; season++) {
            x.row(0, season * 150 + 7, season);
        }
        int n = 0;
        for (int code = 0; code < 256; code++) {
            int[] p = {code >> 6, code >> 4 & 3, code >> 2 & 3, code & 3};
            if ((1 << p[0] | 1 << p[1] | 1 << p[2] | 1 << p[3]) == 15) {
                Check.due("order", x.order(n), n == 0 ? 0 : n - 1);
                for (int season = 0; season < 4; season++) {
                    Check.due("season " + season + " by order " + n, x.at(0, season * 150 + 7, 5), p[season]);
                }
                n++;
            }
        }
        Check.due("orders", n, 24);
    }

    /** What was asked before a change may not be answered after it. */
    private static void lookedAtAnew() {
        DimStars x = oneStar("beat 7 7; long 1 1");
        Check.law(x, "bright 1000");
        x.world(0, 7, 2, 1, 400, false);
        x.make(0, 0, 0, 0, 99);
        Check.due("as it is", x.found(0, 0, 0, 2), 2);
        Check.due("clean", x.found(0, 0, 3, 2), 2);
        x.wide(0);
        Check.due("clean of itself", x.found(0, 0, 3, 2), -1);
        x.wide(20);
        Check.due("clean again", x.found(0, 0, 3, 2), 2);
        Check.due("not masked", x.found(0, 0, 4, 2), 2);
        x.mask(0, 1, 100);
        Check.due("masked", x.found(0, 0, 4, 2), -1);
        x.mask(0, 0, 100);
        Check.due("not masked again", x.found(0, 0, 4, 2), 2);
        Check.due("in order", x.found(0, 0, 5, 2), 2);
        x.order(6);
        // from HOUR 150 on: 152 of 7 is 5
        Check.due("in another order", x.found(0, 0, 5, 2), 5);
        x.image(1);
        x.row(0, 2, 1000);
        long less = x.found(0, 0, 0, 4);
        x.back(1);
        Check.due("back to more", x.found(0, 0, 0, 4) > less, true);
        x.world(0, 7, 4, 1, 900, false);
        x.make(0, 0, 0, 0, 99);
        Check.due("made anew", x.found(0, 0, 0, 2), 4);
        x.world(0, 7, 5, 1, 2000, true);
        Check.due("caught", x.catches(0, 2), 1);
        x.row(0, 599, -30000);
        x.row(0, 592, -30000);
        Check.due("put in a row that has changed", x.catches(0, 2), 1);
        // 592 and 599 of 7 are 4
        x.mask(0, 1, 0);
        Check.due("only rows as they are count", x.catches(0, 2), 1);
        x.back(1);
        Check.due("the world is gone", x.catches(0, 2), -1);
        Check.due("another world", x.world(0, 11, 5, 1, 5000, true), 1);
        Check.due("is not caught", x.catches(0, 1), 0);
        imagesOfWorlds();
    }

    /** The same number may be another WORLD in another image. */
    private static void imagesOfWorlds() {
        DimStars x = oneStar("least 2");
        x.image(0);
        x.world(0, 10, 3, 1, 1, false);
        x.image(1);
        x.back(0);
        x.world(0, 20, 5, 1, 1, true);
        Check.due("the second one", x.room(0, 0), 26);
        x.image(2);
        x.back(1);
        Check.due("the first one", x.room(0, 0), 14);
        Check.due("it is real", x.catches(0, 0), -1);
        x.back(2);
        Check.due("the second one again", x.room(0, 0), 26);
        Check.due("it is put in", x.catches(0, 0), 0);
    }

    private static void firstHour() {
        DimStars x = oneStar("beat 3 3; long 1 1");
        put(x, 0, 0, 1, 9, 9, 1, 9, 5);
        Check.due("first 0", x.found(0, 0, 0, 2), 0);
        x.mask(0, 1, 3);
        // the mean is 34 / 6 = 5
        Check.due("HOUR 0 is masked", x.at(0, 0, 4), -100000);
        Check.due("second, without HOURS 0 and 3", x.second(0, 0, 2), 2);
        // 9, 9, 9, 5: SPREAD (4 * 268 - 1024) / 16 = 3; DEEP 9 - 7
        Check.due("its deep", x.second(0, 0, 3), 2);
        Check.due("its score", x.second(0, 0, 4), 2 * 2 * 2 / 3);
        DimStars y = oneStar("beat 3 3; long 1 1");
        put(y, 0, 0, 9);
        put(y, 0, 7, 9);
        y.world(0, 3, 0, 1, 5, true);
        Check.due("put in HOUR 0", y.catches(0, 0), 1);
        Check.due("at last HOUR", y.row(0, 599, 9), -100000);
        Check.due("turned round", y.at(0, 149, 2), 9);
    }

    private static void meansOfMasks() {
        DimStars x = new DimStars();
        x.star(1, 7, 1);
        x.mask(7, 1, 2);
        put(x, 0, 0, 5, 0);
        // 5 / 2 is 2, downwards: not more than 2 above 0
        Check.due("the mean is downwards", x.at(0, 1, 4), 0);
        put(x, 0, 0, 6, 0);
        Check.due("3 above", x.at(0, 1, 4), -100000);
        put(x, 0, 0, -5, -100000);
        x.mask(7, 1, 0);
        Check.due("one number is its own mean", x.at(0, 0, 4), -5);
        put(x, 0, 0, -5, -6);
        // -11 / 2 is -6, downwards
        Check.due("below 0, downwards", x.at(0, 1, 4), -6);
        x.star(1, 7, 1);
        x.mask(7, 2, 0);
        put(x, 0, 0, 9, 0);
        put(x, 1, 1, 0);
        put(x, 1, 5, 9);
        Check.due("two stars", x.at(0, 1, 4), -100000);
        Check.due("and the other", x.at(1, 1, 4), -100000);
        put(x, 1, 1, -100000);
        Check.due("one has no number", x.at(0, 1, 4), 0);
        Check.due("spread by what is left", x.tried(0, 4, 2, 1, 1, 4), x.tried(0, 0, 2, 1, 1, 4));
    }

    private static void spreads() {
        DimStars x = new DimStars();
        x.star(1, 0, 1);
        put(x, 0, 0, 0, 1, 4);
        // (3 * 17 - 25) / 9 = 26 / 9
        Check.due("spread, downwards", x.spread(0), 2);
        put(x, 0, 0, 0, -1, -4);
        Check.due("spread below 0", x.spread(0), 2);
        x.mask(0, 1, 0);
        put(x, 0, 0, 0, 10, 20, 100, 0);
        // the mean is 26: HOURS 0, 1, 2, 4 are masked; one number alone is left
        Check.due("nothing out", x.tried(0, 4, 5, 1, 3, 2), -100000);
        x.mask(0, 1, 20);
        // HOURS 0 and 4 are masked: 10, 20, 100: SPREAD (3 * 10500 - 16900) / 9 = 1622; DEEP 60 - 10 = 50
        Check.due("spread of what is looked at", x.tried(0, 4, 5, 1, 1, 4), 50 * 50 / 1622);
        x.wide(1);
        // clean: 0 - 5, 10 - 10, 20 - 43, 100 - 40, 0 - 50: -5, 0, -23, 60, -50
        Check.due("clean 4", x.at(0, 4, 3), -50);
        // DEEP of HOUR 4: (32 / 4) + 50 = 58; SPREAD (5 * 6654 - 324) / 25 = 1317
        Check.due("deep of clean", x.tried(0, 3, 5, 1, 4, 2), 58);
        Check.due("spread of clean", x.tried(0, 3, 5, 1, 4, 4), 58 * 58 / 1317);
    }

    private static void beatTwo() {
        DimStars x = oneStar("line 1");
        put(x, 0, 0, 5, 9, 5, 9, 5, 9);
        Check.due("beat 2 without the clause", x.found(0, 0, 0, 0), 2);
        Check.due("first", x.found(0, 0, 0, 2), 0);
        Check.due("seen", x.found(0, 0, 0, 6), 1);
        // beat 4, first 0: HOURS 0 and 4; first 2: HOUR 2; half: no
        Check.due("twice", x.alias(0, 0, 1), 9 * 2 / 4);
        Check.due("half of 2", x.alias(0, 0, 2), 0);
    }

    private static void leastWithDipsOverTheEnds() {
        DimStars x = oneStar("beat 200 200; long 2 2; least 4");
        Check.search(x, "beat 200 200; long 2 2; least 5");
        Check.search(x, "beat 200 200; long 2 2; least 3");
        Check.law(x, "bright 0 if hour = 0 or hour = 199 or hour = 400 or hour = 599; bright 10");
        x.make(0, 0, 0, 0, 599);
        // first 199: HOURS 0, 199, 200, 399, 400, 599
        Check.due("four dips", x.tried(0, 0, 200, 2, 199, 3), 4);
        Check.due("least 4: the dip that hangs over both ends", x.found(0, 0, 0, 2), 199);
        Check.due("its dips", x.found(0, 0, 0, 5), 4);
        Check.due("least 5", x.found(1, 0, 0, 2), -1);
        Check.due("least 3", x.found(2, 0, 0, 2), 199);
        DimStars y = oneStar("beat 2 2; long 1 1; least 99");
        Check.law(y, "bright hour - hour / 2 * 2");
        y.make(0, 0, 0, 0, 195);
        Check.due("98 dips", y.found(0, 0, 0, 0), -1);
        y.make(0, 0, 0, 196, 196);
        Check.due("99 dips", y.found(0, 0, 0, 5), 99);
        // of two alike in deep and HOURS that with as many dips
        DimStars z = oneStar("beat 10 10; long 2 2; least 2");
        put(z, 0, 0, 9, 9, 9, 9, 0, 0, 9, 9, 9, 9);
        Check.due("one dip is too few", z.found(0, 0, 0, 0), -1);
        Check.due("two HOURS in one dip", z.tried(0, 0, 10, 2, 4, 3), 1);
    }

    /** One DIP in so many comes an HOUR late. */
    private static void rounds() {
        int[][] due = {{20, 20}, {21, -1}, {19, 19}, {2, 2}, {60, -1}};
        for (int[] d : due) {
            DimStars x = new DimStars();
            x.star(1, 0, 1);
            Check.search(x, "beat 10 10; long 2 2");
            Check.law(x, "bright 1000");
            x.world(0, 10, 3, 2, 500, false);
            x.make(0, 0, 0, 0, 599);
            int late = 0;
            for (int k = 0; k < 60; k += d[0]) {
                put(x, 0, 3 + 10 * k, 1000, 500, 500);
                late++;
            }
            // one late in 2: both firsts are alike, and the least counts
            Check.due("found so, one late in " + d[0], x.found(0, 0, 0, 2), 3);
            Check.due("late ones", x.other(0, 0, 0), late);
            Check.due("round, one late in " + d[0], x.other(0, 0, 1), d[1]);
            Check.due("late", x.sign(0, 0, 5), 1);
        }
    }

    private static void dipBeforeTheRow() {
        DimStars x = oneStar("beat 10 10; long 3 3");
        // first 9: k = -1 has HOURS 0 and 1, k = 0 has 9, 10, 11
        put(x, 0, 0, 4, 4, 9, 3, 9, 9, 9, 9, 9, 1, 1, 1, 9, 9, 9);
        Check.due("first", x.found(0, 0, 0, 2), 9);
        Check.due("dips", x.found(0, 0, 0, 5), 2);
        // k = -1 from -1: s = 0: 8 / 2; -1: 4; 1: 17 / 3; -2, -3: 4 and none; 2: 16 / 3; 3: 21 / 3
        Check.due("shift of -1: alike, nearest to 0", x.shift(0, 0, -1), 0);
        Check.due("round of -1 and 0", x.other(0, 0, 1), 1);
        put(x, 0, 0, 3);
        // s = 0: 7 / 2; -1: 3 alone
        Check.due("shift of -1: the first HOUR alone", x.shift(0, 0, -1), -1);
        Check.due("late", x.sign(0, 0, 5), 1);
        Check.due("other", x.other(0, 0, 0), 1);
        Check.due("no round", x.other(0, 0, 1), -1);
        put(x, 0, 8, 1, 1, 1, 9);
        Check.due("first, soon now", x.found(0, 0, 0, 2) == 9 ? x.shift(0, 0, 0) : -1, -1);
    }

    private static void wordsOfASorter() {
        DimStars x = new DimStars();
        x.star(31, 0, 1);
        x.star(1, 0, 1);
        x.star(1, 0, 1);
        Check.law(x, "bright 1000");
        Check.search(x, "beat 20 20; long 1 10");
        String[] words = {"beat", "long", "deep", "score", "dips", "0-shape", "shape", "same", "late", "size"};
        for (int star = 0; star < 3; star++) {
            x.make(0, star, 0, 0, 199);
            for (int h = 5; h < 200; h += 20) {
                put(x, star, h, 800, 900, 900, 800);
            }
        }
        // every second DIP of STAR 0 has 40 less, one comes two HOURS late
        for (int h = 5; h < 200; h += 40) {
            put(x, 0, h, 760, 860, 860, 760);
        }
        put(x, 0, 45, 1000, 1000, 760, 860, 860, 760);
        Check.due("beat", x.found(0, 0, 0, 0), 20);
        Check.due("long", x.found(0, 0, 0, 1), 4);
        Check.due("first", x.found(0, 0, 0, 2), 5);
        for (int i = 0; i < 5; i++) {
            Check.due("sorter", Check.sorter(x, "world " + words[2 * i] + ";pair " + words[2 * i + 1] + ";spot odd"), i);
        }
        int odd = x.sign(0, 0, 2);
        int shape = x.sign(0, 0, 3);
        Check.due("shape is below 0", shape < 0, true);
        Check.due("odd is above 0", odd > 0, true);
        Check.due("late", x.sign(0, 0, 5), 2);
        Check.due("same", x.sign(0, 0, 4), 2);
        int[] due = {20, 4, (int) x.found(0, 0, 0, 3), (int) x.found(0, 0, 0, 4), 10, -shape, 0, 2, 2, 31};
        for (int i = 0; i < 10; i++) {
            Check.due("weight by " + words[i], x.weight(i / 2, 0, 0, i % 2), due[i]);
        }
        Check.due("weight by odd", x.weight(0, 0, 0, 2), odd);
        x.row(2, 0, -30000);
        x.row(2, 20, -30000);
        Check.due("another first now", x.found(0, 2, 0, 2) != 5, true);
        Check.due("same by one less", x.weight(3, 0, 0, 1), 1);
    }

    private static void aliasesAlike() {
        DimStars x = oneStar("beat 6 6; long 1 2");
        put(x, 0, 0, 2, 2, 2, 2, 2, 2, 0, 3, 3, 0, 2);
        // SPREAD 1; first 0: HOURS 0, 6: 2; twice at 6: 4; half: HOURS 0, 3, 6, 9: 1 * 1 * 4
        Check.due("as found", x.found(0, 0, 0, 4), 2);
        Check.due("twice", x.alias(0, 0, 1), 4);
        Check.due("half", x.alias(0, 0, 2), 4);
        Check.due("twice goes before half", x.alias(0, 0, 0), 1);
        DimStars y = oneStar("beat 100 100; long 1 1");
        put(y, 0, 0, 9, 1, 9);
        Check.due("twice of 100", y.alias(0, 0, 1), y.found(0, 0, 0, 4));
        Check.due("half of 100", y.alias(0, 0, 2), y.found(0, 0, 0, 4));
        Check.due("as found goes first", y.alias(0, 0, 0), 0);
    }

    private static void lucks() {
        DimStars x = oneStar("beat 7 7; long 1 1");
        Check.law(x, "bright 1000");
        Check.sorter(x, "world 1");
        x.world(0, 7, 2, 1, 400, false);
        x.make(0, 0, 0, 0, 99);
        x.world(0, 7, 2, 1, 400, true);
        // luck 1, one of one
        Check.due("truly of the least luck", x.truly(0, 0), 1000000);
        Check.due("bound of the least luck", x.bound(0, 1) > 2900, true);
        for (int i = 0; i < 38; i++) {
            x.world(0, 300, 2, 1, 400, true);
        }
        Check.due("share", x.share(0, 1), 39);
        Check.due("truly of many lost", x.truly(0, 0), 39000000);
        // 38 * 1 / 39 is 0, 39 * 1 / 39 is 1
        Check.due("bound, p 0", x.bound(0, 38), -2);
        Check.due("bound, p 1", x.bound(0, 39) > 2900, true);
    }

    private static void farNumbers() {
        DimStars x = oneStar("beat 2 2; long 1 1");
        x.resize(0, 999);
        for (int h = 0; h < 100; h++) {
            x.row(0, h, h % 2 == 0 ? -30000 : 30000);
        }
        Check.due("deep", x.found(0, 0, 0, 3), 60000);
        Check.due("spread", x.spread(0), 900000000);
        Check.due("score", x.found(0, 0, 0, 4), 200);
        // 60000 * 998001 / 100000 = 598800.6
        Check.due("radius", x.radius(0, 0), 773);
        Check.due("fold", x.fold(0, 1, 2, 1, 1), -1500000);
        x.world(0, 2, 0, 1, 30000, true);
        Check.due("held", x.catches(0, 0), 1);
        DimStars y = new DimStars();
        y.star(1, 0, 1);
        put(y, 0, 0, -30000, 30000);
        Check.due("score without spread's hold", y.tried(0, 0, 2, 1, 0, 4), 3600000000L * 1 / 900000000L);
    }

    /** As many of everything as there may be. */
    private static void fullHouse() {
        DimStars x = new DimStars();
        for (int i = 0; i < 12; i++) {
            x.star(100 + i, i % 8, 100 + i);
        }
        for (int i = 0; i < 40; i++) {
            x.world(i % 12, 5 + i, i, 2, 500, i >= 12);
        }
        Check.law(x, "bright 1000");
        for (int i = 0; i < 6; i++) {
            Check.search(x, "beat 2 60; long 1 3; line " + i);
        }
        Check.sorter(x, "world 1");
        for (int i = 0; i < 12; i++) {
            x.make(0, i, 0, 0, 599);
        }
        for (int i = 0; i < 12; i++) {
            Check.due("beat of star " + i, x.found(5, i, 0, 0), 5 + i);
            Check.due("first of star " + i, x.found(5, i, 0, 2), i);
        }
        Check.due("seen worlds", x.many(5, 0, 0, 999, 0), 12);
        Check.due("finest", x.finest() >= 0, true);
        Check.due("put in", x.share(5, 1) > 0, true);
        Check.due("last world", x.catches(5, 39) >= 0, true);
    }
}
