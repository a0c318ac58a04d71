/** Bounds of part III: PUT IN, CAUGHT, SHARE, CHANCE, BEST LINE; of part VI: FINEST, ROOM. */
public final class CatchBoundsTest {
    private static final int NOTHING = -100000;

    private CatchBoundsTest() {
    }

    public static void main(String[] args) {
        held();
        numbersAlone();
        byItself();
        withItsBeat();
        notBelowTheLine();
        notPutIn();
        shareOfNone();
        shareInLowestTerms();
        chanceAtTheLine();
        chanceByAWay();
        chanceOfNothingFound();
        bestOfTwentyOneLines();
        bestOfSeveral();
        weightsOfTheLine();
        steps();
        finest();
        finestOfNone();
        room();
        Check.end();
    }

    private static void put(DimStars x, int star, int from, int... numbers) {
        for (int i = 0; i < numbers.length; i++) {
            x.row(star, from + i, numbers[i]);
        }
    }

    /** A STAR with so much at HOURS 0 to 99. */
    private static DimStars flat(int bright) {
        DimStars x = new DimStars();
        x.star(1, 0, 1);
        Check.law(x, "bright " + bright);
        x.make(0, 0, 0, 0, 99);
        return x;
    }

    private static void held() {
        DimStars x = new DimStars();
        x.star(1, 0, 1);
        put(x, 0, 0, -25000, 20000, -20000, 20000);
        x.world(0, 2, 0, 1, 10000, true);
        // held: -30000 both, DEEP 50000, SPREAD 625000000: SCORE 8; else DEEP 52500, SPREAD 692187500: 7
        Check.search(x, "beat 2 2;line 8");
        Check.search(x, "beat 2 2;line 9");
        Check.due("held to -30000", x.catches(0, 0), 1);
        Check.due("by line 9", x.catches(1, 0), 0);
        Check.due("the ROW stays", x.at(0, 0, 0), -25000);
        // -29999, -30000 and -30001 less 1: IN alike in all of these, if held
        DimStars y = new DimStars();
        y.star(1, 0, 1);
        put(y, 0, 0, -29999, -29999, -30000, -29999);
        y.world(0, 2, 0, 1, 1, true);
        Check.search(y, "beat 2 2");
        // -30000, -29999, -30000, -29999: DEEP 1, SPREAD 1: SCORE 2
        Check.due("-30001 is held", y.catches(0, 0), 1);
        Check.search(y, "beat 2 2;line 2");
        Check.search(y, "beat 2 2;line 3");
        Check.due("line 2", y.catches(1, 0), 1);
        Check.due("line 3", y.catches(2, 0), 0);
    }

    private static void numbersAlone() {
        DimStars x = new DimStars();
        x.star(1, 0, 1);
        Check.search(x, "beat 5 5;long 1 1");
        x.world(0, 5, 2, 1, 100, true);
        Check.due("no numbers", x.catches(0, 0), 0);
        put(x, 0, 0, 7, 7, NOTHING, 7, 7);
        Check.due("no number in the dip", x.catches(0, 0), 0);
        x.row(0, 7, 7);
        Check.due("one number in the dip", x.catches(0, 0), 1);
        x.row(0, 2, 7);
        Check.due("two", x.catches(0, 0), 1);
        // before its first there is no dip
        DimStars y = new DimStars();
        y.star(1, 0, 1);
        Check.search(y, "beat 5 5;long 1 1");
        y.world(0, 5, 12, 1, 100, true);
        put(y, 0, 0, 7, 7, 7, 7, 7, 7, 7, 7, 7, 7, 7, 7);
        Check.due("HOURS 2 and 7 are before its first", y.catches(0, 0), 0);
        y.row(0, 12, 7);
        Check.due("HOUR 12 is its first", y.catches(0, 0), 1);
    }

    private static void byItself() {
        DimStars x = flat(1000);
        Check.search(x, "beat 5 9;long 1 1");
        x.world(0, 7, 2, 1, 100, true);
        x.world(0, 5, 0, 1, 900, true);
        x.world(0, 9, 4, 1, 30000, false);
        Check.due("the shallow one alone", x.catches(0, 0), 1);
        Check.due("the deep one alone", x.catches(0, 1), 1);
        Check.due("both are CAUGHT", x.share(0, 0) * 10 + x.share(0, 1), 11);
        x.make(0, 0, 0, 0, 99);
        Check.due("a real one that is MADE", x.catches(0, 0), 0);
    }

    private static void withItsBeat() {
        DimStars x = flat(1000);
        Check.search(x, "beat 10 10;long 1 1");
        Check.search(x, "beat 5 9;long 1 1");
        Check.search(x, "beat 11 20;long 1 1");
        x.world(0, 10, 3, 1, 100, true);
        Check.due("its beat", x.catches(0, 0), 1);
        Check.due("FOUND with a lesser beat", x.catches(1, 0), 0);
        Check.due("FOUND with a greater beat", x.catches(2, 0), 0);
        x.world(0, 201, 3, 1, 100, true);
        x.world(0, 599, 3, 1, 100, true);
        Check.search(x, "beat 2 200;long 1 1");
        Check.due("beat 201", x.catches(3, 1), 0);
        Check.due("beat 599", x.catches(3, 2), 0);
        DimStars y = new DimStars();
        y.star(1, 0, 1);
        Check.law(y, "bright 1000");
        y.make(0, 0, 0, 0, 599);
        Check.search(y, "beat 150 200;long 1 1");
        y.world(0, 200, 3, 1, 100, true);
        Check.due("beat 200", y.catches(0, 0), 1);
    }

    /** 14 HOURS IN of 100, DEEP 100, SPREAD 1204: SCORE 116. */
    private static void notBelowTheLine() {
        DimStars x = flat(1000);
        x.world(0, 7, 2, 1, 100, true);
        int[] lines = {0, 115, 116, 117, 99999};
        for (int i = 0; i < 5; i++) {
            Check.search(x, "beat 7 7;long 1 1;line " + lines[i]);
            Check.due("line " + lines[i], x.catches(i, 0), lines[i] <= 116 ? 1 : 0);
            Check.due("share by line " + lines[i], x.share(i, 0), lines[i] <= 116 ? 1 : 0);
        }
    }

    private static void notPutIn() {
        DimStars x = flat(1000);
        Check.due("no SEARCH", x.catches(0, 0), -1);
        Check.search(x, "beat 2 20");
        Check.due("no WORLD", x.catches(0, 0), -1);
        x.world(0, 7, 2, 1, 100, false);
        Check.due("a real one", x.catches(0, 0), -1);
        x.world(0, 7, 2, 1, 100, true);
        Check.due("one PUT IN", x.catches(0, 1), 1);
        Check.due("one more is none", x.catches(0, 2), -1);
        Check.due("below 0", x.catches(0, -1), -1);
        Check.due("no such SEARCH", x.catches(1, 1), -1);
    }

    private static void shareOfNone() {
        DimStars x = flat(1000);
        Check.due("no SEARCH", x.share(0, 0), -1);
        Check.search(x, "beat 2 20");
        Check.due("0 by 0, above", x.share(0, 0), 0);
        Check.due("0 by 0, below", x.share(0, 1), 0);
        x.world(0, 7, 2, 1, 100, false);
        Check.due("real ones don't count, above", x.share(0, 0), 0);
        Check.due("real ones don't count, below", x.share(0, 1), 0);
        x.world(0, 300, 2, 1, 100, true);
        Check.due("0 by 1, above", x.share(0, 0), 0);
        Check.due("0 by 1, below", x.share(0, 1), 1);
        x.world(0, 300, 2, 1, 100, true);
        Check.due("0 by 2 in lowest terms", x.share(0, 1), 1);
    }

    private static void shareInLowestTerms() {
        DimStars x = flat(1000);
        Check.search(x, "beat 2 20");
        int[][] due = {{1, 1}, {1, 1}, {2, 3}, {1, 2}, {3, 5}, {1, 2}, {4, 7}, {1, 2}};
        boolean[] isCaught = {true, true, false, false, true, false, true, false};
        for (int i = 0; i < 8; i++) {
            x.world(0, isCaught[i] ? 7 : 300, 2, 1, 100, true);
            Check.due("above, of " + (i + 1), x.share(0, 0), due[i][0]);
            Check.due("below, of " + (i + 1), x.share(0, 1), due[i][1]);
        }
        DimStars y = flat(1000);
        Check.search(y, "beat 2 20");
        for (int i = 0; i < 40; i++) {
            y.world(0, i == 0 ? 300 : 7, 2, 1, 100, true);
        }
        Check.due("the last one is CAUGHT", y.catches(0, 39), 1);
        Check.due("39 of 40, above", y.share(0, 0), 39);
        Check.due("39 of 40, below", y.share(0, 1), 40);
    }

    /** Ten HOURS, one of them OUT: SCORE 100, or 99 if one HOUR IN has 1 more; upside down or as it is. */
    private static DimStars ten(int sign, int more) {
        DimStars x = new DimStars();
        x.star(1, 0, 1);
        for (int hour = 0; hour < 9; hour++) {
            x.row(0, hour, -sign * (hour == 4 ? 100 + more : 100));
        }
        x.row(0, 9, 0);
        Check.search(x, "beat 10 10;long 9 9");
        Check.due("SCORE", x.found(0, 0, sign > 0 ? 0 : 1, 4), more == 0 ? 100 : 99);
        return x;
    }

    private static void chanceAtTheLine() {
        for (int way = 0; way < 2; way++) {
            DimStars x = ten(way == 0 ? 1 : -1, 0);
            int[] lines = {0, 1, 2, 99, 100, 101, 999999};
            for (int line : lines) {
                Check.due("line " + line + " by WAY " + way, x.chance(0, line, way), line <= 100 ? 1 : 0);
                // first 1: IN 800 / 9, DEEP 11, SCORE 121 * 9 / 900
                Check.due("line " + line + " by the other WAY", x.chance(0, line, 1 - way), line <= 1 ? 1 : 0);
            }
            Check.due("line -1", x.chance(0, -1, way), -1);
            Check.due("line 1000000", x.chance(0, 1000000, way), -1);
        }
    }

    private static void chanceByAWay() {
        DimStars x = ten(1, 0);
        // turned round, HOURS 450 to 459 have the numbers
        Check.due("turned round", x.chance(0, 100, 2), 1);
        Check.due("turned round, above", x.chance(0, 101, 2), 0);
        Check.due("in their ORDER", x.chance(0, 100, 5), 1);
        Check.due("without MASKED HOURS", x.chance(0, 100, 4), 1);
        x.mask(0, 1, 0);
        // the mean is -90: all nine are below it
        Check.due("without MASKED HOURS, of which there are nine", x.chance(0, 0, 4), 0);
        x.wide(0);
        Check.due("CLEAN of itself", x.chance(0, 0, 3), 0);
        Check.due("WAY -1", x.chance(0, 0, -1), -1);
        Check.due("WAY 6", x.chance(0, 0, 6), -1);
    }

    private static void chanceOfNothingFound() {
        DimStars x = new DimStars();
        Check.search(x, "line 5");
        Check.due("no STARS", x.chance(0, 0, 0), 0);
        x.star(1, 0, 1);
        Check.due("nothing is FOUND, line 0", x.chance(0, 0, 0), 0);
        put(x, 0, 0, 0, 1);
        // SCORE 1 is below the SEARCH's own line
        Check.due("FOUND and not SEEN", x.found(0, 0, 0, 6), 0);
        Check.due("the told line alone counts", x.chance(0, 1, 0), 1);
        Check.due("one above", x.chance(0, 2, 0), 0);
    }

    /** Lines 0, step, .. 20 * step: the last one lies above SCORE 99, not above SCORE 100. */
    private static void bestOfTwentyOneLines() {
        DimStars at = ten(-1, 0);
        DimStars below = ten(-1, 1);
        Check.due("20 * 5 is not above 100", at.line(0, 5, 1, 7, 0), 0);
        Check.due("it is kept then", at.line(0, 5, 1, 7, 1), 7);
        Check.due("20 * 5 is above 99", below.line(0, 5, 1, 7, 0), 100);
        Check.due("nothing is kept then", below.line(0, 5, 1, 7, 1), 0);
        Check.due("17 * 6 is the first one above 100", at.line(0, 6, 1, 7, 0), 102);
        Check.due("1 * 101", at.line(0, 101, 1, 7, 0), 101);
        Check.due("2 * 100", at.line(0, 100, 1, 7, 0), 200);
        Check.due("1 * 100", below.line(0, 100, 1, 7, 0), 100);
        Check.due("20 * 4 is below both", below.line(0, 4, 1, 7, 0), 0);
    }

    private static void bestOfSeveral() {
        DimStars x = flat(1000);
        Check.search(x, "beat 10 10;long 1 1");
        Check.due("all lines are alike: the least", x.line(0, 10, 5, 5, 0), 0);
        Check.due("nothing is together", x.line(0, 10, 5, 5, 1), 0);
        x.world(0, 300, 0, 1, 1, true);
        Check.due("one is lost by all lines: the least", x.line(0, 10, 5, 5, 0), 0);
        Check.due("it weighs 5", x.line(0, 10, 5, 5, 1), 5);
        // 10 HOURS IN of 100, DEEP 100, SPREAD 900: SCORE 111
        x.world(0, 10, 9, 1, 100, true);
        Check.due("one is FOUND by the least lines", x.line(0, 10, 5, 5, 0), 0);
        Check.due("one alone is lost", x.line(0, 10, 5, 5, 1), 5);
    }

    private static void weightsOfTheLine() {
        // upside down STAR 0 is FOUND with SCORE 100
        DimStars x = ten(-1, 0);
        x.star(1, 0, 1);
        Check.law(x, "bright 1000");
        x.make(0, 1, 0, 0, 99);
        x.world(1, 10, 7, 3, 100, true);
        // PUT IN: 9 HOURS of ten IN, three of them 900: DEEP 33, SPREAD 2100, 90 HOURS: SCORE 46
        Check.due("it is CAUGHT", x.catches(0, 0), 1);
        Check.search(x, "beat 10 10;long 9 9;line 46");
        Check.search(x, "beat 10 10;long 9 9;line 47");
        Check.due("by line 46", x.catches(1, 0), 1);
        Check.due("not by line 47", x.catches(2, 0), 0);
        int[][] weights = {{999, 999}, {998, 999}, {999, 998}, {0, 999}, {999, 0}, {0, 0}};
        int[][] due = {{0, 999}, {102, 998}, {0, 998}, {102, 0}, {0, 0}, {0, 0}};
        for (int i = 0; i < weights.length; i++) {
            Check.due("line, case " + i, x.line(0, 6, weights[i][0], weights[i][1], 0), due[i][0]);
            Check.due("together, case " + i, x.line(0, 6, weights[i][0], weights[i][1], 1), due[i][1]);
        }
        Check.due("lost 1000", x.line(0, 6, 1000, 0, 1), -1);
        Check.due("kept 1000", x.line(0, 6, 0, 1000, 1), -1);
        Check.due("lost -1", x.line(0, 6, -1, 0, 1), -1);
        Check.due("kept -1", x.line(0, 6, 0, -1, 1), -1);
    }

    private static void steps() {
        DimStars x = ten(-1, 0);
        Check.due("step 99999", x.line(0, 99999, 1, 1, 0), 99999);
        Check.due("step 1", x.line(0, 1, 1, 1, 0), 0);
        Check.due("step 0", x.line(0, 0, 1, 1, 0), -1);
        Check.due("step 100000", x.line(0, 100000, 1, 1, 0), -1);
        // 12 STARS FOUND upside down, 999 each, and 40 lost ones
        DimStars y = new DimStars();
        for (int star = 0; star < 12; star++) {
            y.star(1, 0, 1);
            put(y, star, 0, 1, 0);
        }
        Check.search(y, "beat 2 2");
        for (int i = 0; i < 40; i++) {
            y.world(i % 12, 300, 0, 1, 1, true);
        }
        Check.due("FOUND upside down", y.chance(0, 0, 1), 12);
        Check.due("SCORE 1 is below line 2", y.line(0, 2, 999, 999, 0), 2);
        Check.due("40 lost ones", y.line(0, 2, 999, 999, 1), 40 * 999);
    }

    private static void finest() {
        DimStars x = ten(-1, 0);
        Check.search(x, "beat 10 10;long 9 9;line 100");
        Check.search(x, "beat 10 10;long 9 9;line 101");
        Check.search(x, "beat 10 10;long 9 9;line 102");
        // none CATCHES; upside down lines 0 and 100 see the STAR, 101 and 102 don't
        Check.due("the fewest SEEN upside down, then the least number", x.finest(), 2);
        x.star(1, 0, 1);
        Check.law(x, "bright 1000");
        x.make(0, 1, 0, 0, 99);
        x.world(1, 10, 9, 1, 100, true);
        // by long 9 with SCORE 12: without a line alone
        Check.due("that which CATCHES one", x.finest(), 0);
        // by long 1 with SCORE 111, and upside down nothing is SEEN
        Check.search(x, "beat 10 10;long 1 1;line 112");
        Check.due("one more than its SCORE", x.finest(), 0);
        Check.search(x, "beat 10 10;long 1 1;line 111");
        Check.due("of several the fewest SEEN upside down", x.finest(), 5);
        x.world(1, 300, 9, 1, 100, true);
        Check.due("one that none CATCHES", x.finest(), 5);
    }

    private static void finestOfNone() {
        DimStars x = new DimStars();
        Check.due("no SEARCHES", x.finest(), -1);
        Check.law(x, "bright 1");
        Check.sorter(x, "world 1");
        Check.due("other texts are none", x.finest(), -1);
        Check.search(x, "line 1");
        Check.due("one, without STARS", x.finest(), 0);
        for (int i = 1; i < 6; i++) {
            Check.search(x, "line 1");
        }
        Check.due("all alike: the least number", x.finest(), 0);
    }

    private static void room() {
        DimStars x = new DimStars();
        x.star(1, 0, 1);
        Check.search(x, "line 1");
        Check.search(x, "least 1");
        Check.search(x, "least 2");
        Check.search(x, "least 99");
        x.world(0, 2, 0, 1, 1, false);
        x.world(0, 599, 599, 30, 1, true);
        int[][] due = {{1, 600}, {1, 600}, {3, 1199}, {197, 599 + 98 * 599 + 1}};
        for (int search = 0; search < 4; search++) {
            for (int world = 0; world < 2; world++) {
                Check.due("ROOM of WORLD " + world + " by " + search, x.room(search, world), due[search][world]);
            }
        }
        Check.due("no WORLD 2", x.room(0, 2), -1);
        Check.due("no SEARCH 4", x.room(4, 0), -1);
    }
}
