/** Bounds of parts V and VI: WEIGHTS, SORTED, ODDS, TRULY, BOUND, NIGHTS, IMAGES, SECOND, NEXT DIP, ALIAS, RADIUS, MANY, FOLD. */
public final class JudgeBoundsTest {
    private static final int MOST = Integer.MAX_VALUE;
    private static final int NOTHING = -100000;

    private JudgeBoundsTest() {
    }

    public static void main(String[] args) {
        weightsWithout();
        weightsByTests();
        sortedOfSeveral();
        sortedOfNone();
        oddsInLowestTerms();
        oddsOfNone();
        trulyOfNone();
        trulyDownwards();
        trulyOfThoseSeen();
        trulyOfThoseSorted();
        boundOfNone();
        boundAtTheLimit();
        boundDownwards();
        nightsNotAbove();
        nightsOfSeveral();
        nightsOfNone();
        imagesOfAll();
        imagesStay();
        backRefused();
        secondOfNone();
        secondFound();
        nextDips();
        aliasTwice();
        aliasHalf();
        aliasOfSeveral();
        radiusAtTheLimit();
        manyByRadius();
        manySeen();
        folds();
        counts();
        Check.end();
    }

    private static void put(DimStars x, int star, int from, int... numbers) {
        for (int i = 0; i < numbers.length; i++) {
            x.row(star, from + i, numbers[i]);
        }
    }

    /**
     * A STAR (size 100, luck 500) with 1000 at HOURS 0 to 99 but for the dips of a WORLD (beat 10, first 3, long 2),
     * 400 below that: by SEARCH 0 DEEP is 400, SCORE 125, DIPS 10. STAR 1 (size 200, luck 100) has 1000 at all these.
     */
    private static DimStars dipping(String sorter) {
        DimStars x = new DimStars();
        x.star(100, 0, 500);
        x.star(200, 0, 100);
        x.world(0, 10, 3, 2, 400, false);
        Check.law(x, "bright 1000");
        Check.search(x, "beat 2 20;long 1 3");
        x.make(0, 0, 0, 0, 99);
        x.make(0, 1, 0, 0, 99);
        Check.due(sorter, Check.sorter(x, sorter), 0);
        return x;
    }

    private static void weightsWithout() {
        DimStars x = dipping("world 7;chance 3");
        int[] due = {7, 0, 0, 0, 3};
        for (int sort = 0; sort < 5; sort++) {
            Check.due("a SORT without CLAUSES: " + sort, x.weight(0, 0, 0, sort), due[sort]);
            Check.due("nothing is FOUND", x.weight(0, 0, 1, sort), -1);
        }
        Check.due("SORT -1", x.weight(0, 0, 0, -1), -1);
        Check.due("SORT 5", x.weight(0, 0, 0, 5), -1);
        Check.due("no SORTER 1", x.weight(1, 0, 0, 0), -1);
        Check.due("no SEARCH 1", x.weight(0, 1, 0, 0), -1);
        Check.due("no STAR 2", x.weight(0, 0, 2, 0), -1);
    }

    private static void weightsByTests() {
        DimStars x = dipping("world 1 if deep>=400;world 2 if deep>400;pair 4 if score=125;spot 8 if dips<10;glass 16 if dips<=10");
        int[] due = {1, 4, 0, 16, 0};
        for (int sort = 0; sort < 5; sort++) {
            Check.due("TESTS of " + sort, x.weight(0, 0, 0, sort), due[sort]);
        }
        DimStars y = dipping("world beat;pair long;spot size;glass same;chance late+odd+shape+1");
        int[] of = {10, 2, 100, 0, 1};
        for (int sort = 0; sort < 5; sort++) {
            Check.due("WORDS of " + sort, y.weight(0, 0, 0, sort), of[sort]);
        }
        y.resize(0, 999);
        Check.due("size as it is now", y.weight(0, 0, 0, 2), 999);
        weightsBySigns();
    }

    /** Two STARS alike but that each odd DIP of the first has 40 less and its last one comes two HOURS late. */
    private static DimStars withSigns() {
        DimStars x = new DimStars();
        Check.law(x, "bright 1000");
        Check.search(x, "beat 20 20;long 4 4");
        for (int star = 0; star < 2; star++) {
            x.star(1, 0, 1);
            x.make(0, star, 0, 0, 79);
            for (int k = 0; k < 4; k++) {
                put(x, star, 5 + 20 * k, 800, 750, 750, 800);
            }
        }
        put(x, 0, 25, 760, 710, 710, 760);
        put(x, 0, 65, 1000, 1000, 760, 710, 710, 760);
        Check.sorter(x, "world odd;pair shape;spot same;glass late;chance odd-shape");
        return x;
    }

    /** odd, shape, same and late, each another number, by an object that was not asked for them before. */
    private static void weightsBySigns() {
        DimStars x = withSigns();
        Check.due("first", x.found(0, 0, 0, 2), 5);
        Check.due("same", x.sign(0, 0, 4), 1);
        Check.due("late", x.sign(0, 0, 5), 2);
        int odd = x.sign(0, 0, 2);
        int shape = x.sign(0, 0, 3);
        Check.due("all are apart", odd > 2 && shape > 2 && odd != shape, true);
        int[] due = {odd, shape, 1, 2, Math.max(0, odd - shape)};
        // the other STAR: shape is 50, all else alike
        int[] ofOther = {0, 50, 1, 0, 0};
        DimStars y = withSigns();
        for (int sort = 0; sort < 5; sort++) {
            Check.due("signs, " + sort, y.weight(0, 0, 0, sort), due[sort]);
            Check.due("signs of the other, " + sort, y.weight(0, 0, 1, sort), ofOther[sort]);
        }
    }

    private static void sortedOfSeveral() {
        String[] texts = {"world 1", "pair 1", "spot 1", "glass 1", "chance 1", "chance 5;world 5", "glass 5;spot 5;chance 5", "pair 5;spot 6",
            "world 5;pair 6", "chance 99999;pair 99999*2"};
        int[] due = {0, 1, 2, 3, 4, 0, 2, 2, 1, 1};
        for (int i = 0; i < texts.length; i++) {
            Check.due("SORTED by " + texts[i], dipping(texts[i]).sorted(0, 0, 0), due[i]);
        }
    }

    private static void sortedOfNone() {
        Check.due("all WEIGHTS are 0", dipping("world 0;chance 0-5").sorted(0, 0, 0), -2);
        Check.due("no TEST holds", dipping("world 5 if beat=11").sorted(0, 0, 0), -2);
        DimStars x = dipping("spot 1");
        Check.due("one is 1", x.sorted(0, 0, 0), 2);
        Check.due("nothing is FOUND", x.sorted(0, 0, 1), -1);
        Check.due("no STAR", x.sorted(0, 0, 2), -1);
        Check.due("no SEARCH", x.sorted(0, 1, 0), -1);
        Check.due("no SORTER", x.sorted(1, 0, 0), -1);
    }

    private static void oddsInLowestTerms() {
        DimStars x = dipping("world 6;pair 4;spot 2;glass 0;chance 12");
        int[][] due = {{1, 4}, {1, 6}, {1, 12}, {0, 1}, {1, 2}};
        for (int sort = 0; sort < 5; sort++) {
            Check.due("above, SORT " + sort, x.odds(0, 0, 0, sort, 0), due[sort][0]);
            Check.due("below, SORT " + sort, x.odds(0, 0, 0, sort, 1), due[sort][1]);
        }
        DimStars y = dipping("glass 7");
        Check.due("one alone, above", y.odds(0, 0, 0, 3, 0), 1);
        Check.due("one alone, below", y.odds(0, 0, 0, 3, 1), 1);
        DimStars z = dipping("world 99999;pair 99999;spot 99999;glass 99999;chance 99998");
        Check.due("five great ones, above", z.odds(0, 0, 0, 0, 0), 99999);
        Check.due("five great ones, below", z.odds(0, 0, 0, 0, 1), 499994);
        Check.due("the last one, above", z.odds(0, 0, 0, 4, 0), 49999);
        Check.due("the last one, below", z.odds(0, 0, 0, 4, 1), 249997);
    }

    private static void oddsOfNone() {
        DimStars x = dipping("world 0");
        for (int sort = 0; sort < 5; sort++) {
            Check.due("0 by 0, above", x.odds(0, 0, 0, sort, 0), 0);
            Check.due("0 by 0, below", x.odds(0, 0, 0, sort, 1), 0);
        }
        Check.due("nothing is FOUND", x.odds(0, 0, 1, 0, 0), -1);
        Check.due("part 2", x.odds(0, 0, 0, 0, 2), -1);
        Check.due("part -1", x.odds(0, 0, 0, 0, -1), -1);
        Check.due("SORT 5", x.odds(0, 0, 0, 5, 0), -1);
        Check.due("SORT -1", x.odds(0, 0, 0, -1, 0), -1);
    }

    private static void trulyOfNone() {
        DimStars x = dipping("world 1");
        Check.due("none is PUT IN", x.truly(0, 0), -2);
        x.world(1, 300, 2, 1, 100, true);
        Check.due("none is CAUGHT", x.truly(0, 0), -2);
        x.world(1, 7, 2, 1, 100, true);
        // 1000000 * 2 by 500 * 1
        Check.due("one of two is CAUGHT", x.truly(0, 0), 4000);
        Check.due("no SEARCH", x.truly(1, 0), -1);
        Check.due("no SORTER", x.truly(0, 1), -1);
        Check.due("no SEARCH below", x.truly(-1, 0), -1);
        DimStars y = dipping("world 1");
        y.star(1, 0, 1);
        y.world(1, 7, 2, 1, 100, true);
        Check.sorter(y, "pair 1");
        Check.due("none is SORTED world", y.truly(0, 1), 0);
    }

    private static void trulyDownwards() {
        int[] luck = {1, 3, 7, 999, 1000};
        // one of one CAUGHT, then one of two
        long[] due = {1000000, 333333, 142857, 1001, 1000};
        long[] twice = {2000000, 666666, 285714, 2002, 2000};
        for (int i = 0; i < 5; i++) {
            DimStars x = new DimStars();
            x.star(1, 0, luck[i]);
            x.star(1, 0, 1);
            Check.law(x, "bright 1000");
            x.make(0, 0, 0, 0, 99);
            x.make(0, 1, 0, 0, 99);
            put(x, 0, 3, 0);
            Check.search(x, "beat 7 7;long 1 1");
            Check.sorter(x, "world 1");
            x.world(1, 7, 2, 1, 100, true);
            Check.due("LUCK " + luck[i], x.truly(0, 0), due[i]);
            x.world(1, 300, 2, 1, 100, true);
            Check.due("LUCK " + luck[i] + ", one of two", x.truly(0, 0), twice[i]);
        }
        // each one downwards by itself: 333333 twice, not 666666.7
        DimStars y = new DimStars();
        for (int star = 0; star < 3; star++) {
            y.star(1, 0, 3);
            put(y, star, 0, 9, 9, 0, 9, 9);
        }
        Check.search(y, "beat 7 7;long 1 1");
        Check.sorter(y, "world 1");
        y.world(0, 7, 2, 1, 100, true);
        Check.due("three together", y.truly(0, 0), 999999);
    }

    private static void trulyOfThoseSeen() {
        int[] lines = {124, 125, 126};
        for (int line : lines) {
            DimStars x = dipping("world 1");
            Check.search(x, "beat 2 20;long 1 3;line " + line);
            // PUT IN where it is deep enough to be CAUGHT by all these lines: SCORE 100 * 100 / 81
            x.world(0, 10, 3, 2, 30000, true);
            Check.due("CAUGHT by line " + line, x.catches(1, 1), line <= 125 ? 1 : 0);
            Check.due("TRULY by line " + line, x.truly(1, 0), line <= 125 ? 2000 : -2);
        }
        // CAUGHT, though the STAR is not SEEN: 9 of 10 HOURS IN have a SCORE of 100 * 100 / 10
        DimStars y = dipping("world 1");
        Check.search(y, "beat 10 10;long 9 9;line 900");
        y.world(1, 10, 0, 9, 100, true);
        Check.due("CAUGHT", y.catches(1, 1), 1);
        Check.due("none is SEEN", y.truly(1, 0), 0);
    }

    private static void trulyOfThoseSorted() {
        String[] sorters = {"world 1", "world 2;pair 2", "world 1;pair 2", "world 0", "world 0-1;pair 0-2", "pair 1", "world 1 if size=100"};
        long[] due = {2000, 2000, 0, 0, 0, 0, 2000};
        for (int i = 0; i < sorters.length; i++) {
            DimStars x = dipping(sorters[i]);
            x.world(1, 7, 2, 1, 100, true);
            Check.due("SORTED by " + sorters[i], x.truly(0, 0), due[i]);
        }
    }

    private static void boundOfNone() {
        DimStars x = dipping("world 1");
        Check.due("none is PUT IN", x.bound(0, 1000), -2);
        x.world(1, 300, 2, 1, 100, true);
        Check.due("p is 0: none is CAUGHT", x.bound(0, 1000), -2);
        x.world(1, 7, 2, 1, 100, true);
        Check.due("p is 0: 1 * 1 by 2", x.bound(0, 1), -2);
        Check.due("p is 1: 2 * 1 by 2", x.bound(0, 2) > 0, true);
        Check.due("p is 1: 3 * 1 by 2", x.bound(0, 3), x.bound(0, 2));
        Check.due("LUCK 0", x.bound(0, 0), -1);
        Check.due("LUCK 1001", x.bound(0, 1001), -1);
        Check.due("LUCK 1000", x.bound(0, 1000) > 0, true);
        Check.due("no SEARCH", x.bound(1, 500), -1);
    }

    private static void boundAtTheLimit() {
        DimStars x = dipping("world 1");
        x.world(1, 7, 2, 1, 100, true);
        // p is LUCK: v is 1000 * (1000 - p) the first time; 20 * v is below 1000000 if v is below 50000
        int[] luck = {1000, 999, 951, 950, 949, 777, 776, 500};
        // 777: 223 * 223 = 49729; 776: 224 * 224 = 50176; 500: 1 / 16 is .0625, 1 / 32 is not
        int[] due = {1, 1, 1, 2, 2, 2, 3, 5};
        for (int i = 0; i < luck.length; i++) {
            Check.due("LUCK " + luck[i], x.bound(0, luck[i]), due[i]);
        }
    }

    /** v is cut each time: by p 1 it falls by 1 at least. */
    private static void boundDownwards() {
        DimStars x = dipping("world 1");
        x.world(1, 7, 2, 1, 100, true);
        for (int p = 1; p <= 1000; p += 111) {
            long v = 1000000;
            int often = 0;
            while (20 * v >= 1000000) {
                v = v * (1000 - p) / 1000;
                often++;
            }
            Check.due("p " + p, x.bound(0, p), often);
        }
    }

    private static DimStars withCandidates(int[]... pairs) {
        DimStars x = new DimStars();
        x.star(1, 0, 1);
        for (int i = 0; i < pairs.length; i++) {
            Check.due("CANDIDATE " + i, x.candidate(0, pairs[i][0], pairs[i][1]), i);
        }
        return x;
    }

    private static void nightsNotAbove() {
        DimStars x = withCandidates(new int[] {5, 10}, new int[] {7, 20}, new int[] {99, 9999});
        int[] many = {0, 4, 5, 6, 7, 11, 12, 98, 99, 103, 104, 105, 106, 110, 111, 9999};
        int[] set = {0, 0, 1, 1, 2, 2, 3, 3, 4, 4, 5, 5, 6, 6, 7, 7};
        int[] worth = {0, 0, 10, 10, 20, 20, 30, 30, 9999, 9999, 10009, 10009, 10019, 10019, 10029, 10029};
        for (int i = 0; i < many.length; i++) {
            Check.due("the set of " + many[i], x.nights(many[i], 0), set[i]);
            Check.due("its worth", x.nights(many[i], 1), worth[i]);
        }
        Check.due("nights -1", x.nights(-1, 0), -1);
        Check.due("nights 10000", x.nights(10000, 0), -1);
    }

    private static void nightsOfSeveral() {
        DimStars x = withCandidates(new int[] {5, 10}, new int[] {4, 10}, new int[] {4, 10}, new int[] {1, 0});
        Check.due("the fewest nights, then the least number", x.nights(5, 0), 2);
        Check.due("two of 8 nights", x.nights(9, 0), 6);
        Check.due("two of 8 nights, exactly", x.nights(8, 0), 6);
        Check.due("worth 0 is not worth a night", x.nights(9999, 0), 7);
        // one of 20 in 9 nights, two of 10 in 8
        DimStars y = withCandidates(new int[] {9, 20}, new int[] {4, 10}, new int[] {4, 10});
        Check.due("the fewest nights go before the least number", y.nights(9, 0), 6);
        DimStars z = withCandidates(new int[] {4, 10}, new int[] {4, 10}, new int[] {8, 20});
        Check.due("nights alike: the least number", z.nights(8, 0), 3);
        DimStars w = withCandidates(new int[] {8, 20}, new int[] {4, 10}, new int[] {4, 10});
        Check.due("nights alike: the least number, the other way", w.nights(8, 0), 1);
    }

    private static void nightsOfNone() {
        DimStars x = new DimStars();
        Check.due("no CANDIDATES", x.nights(9999, 0), 0);
        Check.due("worth of none", x.nights(9999, 1), 0);
        DimStars y = withCandidates(new int[] {1, 0}, new int[] {1, 0});
        Check.due("none is worth anything", y.nights(9999, 0), 0);
        Check.due("their worth", y.nights(9999, 1), 0);
        DimStars z = withCandidates(new int[] {1, 1});
        Check.due("no nights", z.nights(0, 0), 0);
        Check.due("one night", z.nights(1, 0), 1);
    }

    private static void imagesOfAll() {
        DimStars x = dipping("world 1");
        x.wide(0);
        x.mask(0, 1, 0);
        x.order(23);
        x.candidate(0, 5, 5);
        x.world(1, 7, 2, 1, 100, true);
        x.feed(0x20202020, 0x20202020, 0x20202020, 0x20202020, 0x20202020);
        Check.due("image", x.image(0), 2);
        x.wide(50);
        x.mask(0, 0, 0);
        x.order(0);
        x.candidate(1, 6, 6);
        x.world(1, 8, 2, 1, 100, true);
        x.star(1, 1, 1);
        x.resize(0, 7);
        x.row(0, 3, 1);
        x.row(1, 599, 1);
        x.end(0);
        Check.search(x, "line 9");
        Check.due("back", x.back(0), 2);
        int[] due = {2, 2, 1, 2, 1, 1, 200, 20};
        for (int what = 0; what < 8; what++) {
            Check.due("count " + what, x.count(what), due[what]);
        }
        Check.due("CLEAN by WIDE 0", x.at(0, 3, 3), 0);
        Check.due("MASKED", x.at(0, 3, 4), NOTHING);
        Check.due("ORDER 3210", x.at(0, 453, 5), 600);
        Check.due("ROW", x.at(0, 3, 0), 600);
        Check.due("another ROW", x.at(1, 599, 0), NOTHING);
        Check.due("size", x.resize(0, 7), 100);
        Check.due("WIDE", x.wide(1), 0);
        Check.due("order", x.order(1), 23);
        Check.due("CANDIDATES", x.nights(9999, 1), 5);
        Check.due("WORLDS", x.catches(0, 1), 1);
        Check.due("no other WORLD", x.catches(0, 2), -1);
        Check.due("TRULY by its LUCK", x.truly(0, 0), 2000);
        Check.due("texts stay", x.found(1, 0, 0, 6), 1);
    }

    /** What is changed behind an IMAGE or behind going back does not change the IMAGE. */
    private static void imagesStay() {
        DimStars x = dipping("world 1");
        x.image(0);
        x.row(0, 3, 1);
        x.image(3);
        x.row(0, 3, 2);
        Check.due("back to 3", x.back(3), 2);
        Check.due("there", x.at(0, 3, 0), 1);
        x.row(0, 3, 5);
        Check.due("back to 3 again", x.back(3), 2);
        Check.due("there as it was", x.at(0, 3, 0), 1);
        Check.due("back to 0", x.back(0), 2);
        Check.due("there, too", x.at(0, 3, 0), 600);
        Check.due("IMAGE 3 is still made", x.back(3), 2);
        Check.due("IMAGE 1 was never made", x.back(1), -1);
        Check.due("nothing happens", x.at(0, 3, 0), 1);
        x.image(0);
        x.row(0, 3, 9);
        x.back(0);
        Check.due("an IMAGE made again is the later one", x.at(0, 3, 0), 1);
        imagesOfOthers();
    }

    /** The same numbers may stand for others in another IMAGE. */
    private static void imagesOfOthers() {
        DimStars x = new DimStars();
        Check.law(x, "bright cell*100+1000 if hour>0;bright 0");
        Check.search(x, "beat 50 50;long 1 1;least 1");
        Check.sorter(x, "world 1");
        x.image(0);
        int[] cells = {3, 5};
        int[] lucks = {100, 200};
        for (int i = 0; i < 2; i++) {
            x.back(0);
            x.star(10 + i, cells[i], lucks[i]);
            x.make(0, 0, 0, 0, 9);
            x.world(0, 50, i, 1, 900, true);
            x.candidate(0, 1 + i, 10 + i);
            x.mask(cells[0], 1, i * 30000);
            x.mask(cells[1], 1, i * 30000);
            x.feed(0x6c696e65, i == 0 ? 0x20312020 : 0x20392121, 0x20202020, 0x20202020, 0x20202020);
            x.image(1 + i);
        }
        for (int i = 0; i < 2; i++) {
            Check.due("back to " + (1 + i), x.back(1 + i), 1);
            Check.due("ROW by its cell", x.at(0, 1, 0), 1000 + 100 * cells[i]);
            x.make(0, 0, 0, 2, 2);
            Check.due("its cell", x.at(0, 2, 0), 1000 + 100 * cells[i]);
            Check.due("MASKED by so much", x.at(0, 0, 4), i == 0 ? NOTHING : 0);
            Check.due("its LUCK", x.truly(0, 0), 1000000 / lucks[i]);
            Check.due("its WORLD", x.room(0, 0), i + 1);
            Check.due("its CANDIDATE's nights", x.nights(1, 0), i == 0 ? 1 : 0);
            Check.due("its CANDIDATE's worth", x.nights(2, 1), 10 + i);
            Check.due("its size", x.resize(0, 1), 10 + i);
            Check.due("its TAPE", x.text(1), i == 0 ? 1 : -2 - (1 + 8 * 6));
        }
    }

    private static void backRefused() {
        DimStars x = new DimStars();
        int[] none = {-1, 0, 1, 2, 3, 4, MOST};
        x.star(9, 0, 1);
        for (int k : none) {
            Check.due("back to " + k, x.back(k), -1);
            Check.due("nothing happens", x.count(0), 1);
        }
        Check.due("image -1", x.image(-1), -1);
        Check.due("image 4", x.image(4), -1);
        for (int k : none) {
            Check.due("none is made", x.back(k), -1);
        }
        DimStars y = new DimStars();
        Check.due("an IMAGE without STARS", y.image(0), 0);
        y.star(1, 0, 1);
        Check.due("back to no STARS", y.back(0), 0);
        Check.due("no STARS", y.count(0), 0);
    }

    private static void secondOfNone() {
        DimStars x = dipping("world 1");
        for (int what = 0; what < 6; what++) {
            Check.due("nothing is FOUND there, " + what, x.second(0, 0, what), -1);
            Check.due("nothing is FOUND first, " + what, x.second(0, 1, what), -2);
        }
        Check.due("6: 0", x.second(0, 0, 6), 0);
        Check.due("6 where nothing is FOUND first", x.second(0, 1, 6), -2);
        Check.due("what 7", x.second(0, 0, 7), -2);
        Check.due("what -1", x.second(0, 0, -1), -2);
        // two numbers: without that IN one is left
        DimStars y = new DimStars();
        y.star(1, 0, 1);
        put(y, 0, 0, 1, 9);
        Check.search(y, "line 0");
        Check.due("one number is left", y.second(0, 0, 0), -1);
    }

    private static void secondFound() {
        DimStars x = new DimStars();
        x.star(1, 0, 1);
        Check.search(x, "beat 10 10;long 1 1;line 4");
        // without HOURS 3 and 13 those behind them, 4 and 14, are lowest
        put(x, 0, 0, 9, 9, 9, 1, 5, 9, 9, 9, 9, 9, 9, 9, 9, 1, 5, 9, 9, 9, 9, 9);
        Check.due("first", x.found(0, 0, 0, 2), 3);
        // 18 numbers, two of them 5: SPREAD 16 * 2 * 16 / 324 = 1; DEEP 4; SCORE 16 * 2
        long[] due = {10, 1, 4, 4, 32, 2, 1};
        for (int what = 0; what < 7; what++) {
            Check.due("SECOND " + what, x.second(0, 0, what), due[what]);
        }
        Check.due("the ROW stays", x.at(0, 3, 0), 1);
        Check.search(x, "beat 10 10;long 1 1;line 32");
        Check.search(x, "beat 10 10;long 1 1;line 33");
        Check.due("SEEN at the line", x.second(1, 0, 6), 1);
        Check.due("not SEEN one below it", x.second(2, 0, 6), 0);
        Check.due("but FOUND", x.second(2, 0, 4), 32);
        Check.search(x, "beat 10 10;long 1 1;least 2");
        Check.due("as many DIPS as least", x.second(3, 0, 5), 2);
        x.row(0, 14, NOTHING);
        Check.due("one DIP is too few", x.second(3, 0, 5), -1);
        Check.due("but enough without least", x.second(0, 0, 5), 1);
        // those before them, 2 and 12
        put(x, 0, 2, 5, 1, 9);
        put(x, 0, 12, 5, 1, 9);
        Check.due("HOURS 2 and 12", x.second(0, 0, 2), 2);
        // what was FOUND has first 199: HOURS -1, 0 and 199, 200
        DimStars y = new DimStars();
        y.star(1, 0, 1);
        Check.search(y, "beat 200 200;long 2 2");
        put(y, 0, 0, 0, 5, 9, 9, 5);
        put(y, 0, 599, 0);
        put(y, 0, 199, 0, 0, 9);
        Check.due("first", y.found(0, 0, 0, 2), 199);
        // left: 5, 9, 9, 5 at 1 to 4 and 9 at 201: HOURS 3 and 4: 7 and 23 / 3; HOURS 4 and 5: 5 and 8; HOURS 0 and 1: 7 and 7
        Check.due("HOURS 4 and 5", y.second(0, 0, 2), 4);
        Check.due("its DEEP", y.second(0, 0, 3), 3);
    }

    private static void nextDips() {
        DimStars x = dipping("world 1");
        // first 3, beat 10
        int[][] due = {{0, 3}, {2, 3}, {3, 3}, {4, 13}, {12, 13}, {13, 13}, {14, 23}, {593, 593}, {594, 603}, {99993, 99993},
            {99994, 100003}, {99999, 100003}};
        for (int[] d : due) {
            Check.due("at or behind " + d[0], x.next(0, 0, d[0]), d[1]);
        }
        Check.due("HOUR -1", x.next(0, 0, -1), -1);
        Check.due("HOUR 100000", x.next(0, 0, 100000), -1);
        Check.due("nothing is FOUND", x.next(0, 1, 0), -2);
        Check.due("no such HOUR goes first", x.next(0, 1, 100000), -1);
        // first 199 of beat 200: k is 0 or above, though a DIP begins at -1
        DimStars y = new DimStars();
        y.star(1, 0, 1);
        Check.search(y, "beat 200 200;long 2 2");
        put(y, 0, 0, 0, 9, 9);
        Check.due("first", y.found(0, 0, 0, 2), 199);
        Check.due("not before HOUR 199", y.next(0, 0, 0), 199);
        Check.due("behind it", y.next(0, 0, 200), 399);
        // first 0
        DimStars z = new DimStars();
        z.star(1, 0, 1);
        Check.search(z, "beat 200 200;long 1 1");
        put(z, 0, 0, 0, 9, 9);
        Check.due("HOUR 0", z.next(0, 0, 0), 0);
        Check.due("HOUR 1", z.next(0, 0, 1), 200);
        Check.due("HOUR 200", z.next(0, 0, 200), 200);
    }

    /** A low HOUR at 5 of 0 to 9, FOUND with so great a beat. */
    private static DimStars lowFive(int beat, int longs) {
        DimStars x = new DimStars();
        x.star(1, 0, 1);
        Check.search(x, "beat " + beat + " " + beat + ";long " + longs + " " + longs);
        put(x, 0, 0, 9, 9, 9, 9, 9, 0, 9, 9, 9, 9);
        return x;
    }

    private static void aliasTwice() {
        // 10 numbers, one of them 0: DEEP 9, SPREAD 81 * 9 / 100 = 7: SCORE 11 with each such beat
        int[] beats = {99, 100, 101, 200};
        for (int beat : beats) {
            DimStars x = lowFive(beat, 1);
            Check.due("as FOUND by beat " + beat, x.found(0, 0, 0, 4), 11);
            Check.due("TWICE of beat " + beat, x.alias(0, 0, 1), beat <= 100 ? 11 : 0);
            Check.due("as FOUND goes first", x.alias(0, 0, 0), 0);
        }
        // first f + b: HOURS 5 and 12 of beat 7, of which 12 is the lower one
        DimStars y = new DimStars();
        y.star(1, 0, 1);
        Check.search(y, "beat 7 7;long 1 1");
        put(y, 0, 0, 9, 9, 9, 9, 9, 8, 9, 9, 9, 9, 9, 9, 0, 9);
        Check.due("first", y.found(0, 0, 0, 2), 5);
        // beat 14: first 12: DEEP 116 / 13 = 8, SPREAD (14 * 1036 - 13456) / 196 = 5: 64 / 5; first 5: DEEP 0
        Check.due("the greater SCORE of both firsts", y.alias(0, 0, 1), 12);
        // HOUR 5 and 12 together: DEEP 9 - 4 = 5: 25 * 2 / 5
        Check.due("as FOUND", y.found(0, 0, 0, 4), 10);
        Check.due("TWICE", y.alias(0, 0, 0), 1);
        put(y, 0, 5, 0);
        put(y, 0, 12, 8);
        Check.due("by first f", y.alias(0, 0, 1), 12);
    }

    private static void aliasHalf() {
        // b / 2 above HOUR 5: the first is the same, as is the SCORE
        Check.due("HALF of 200", lowFive(200, 1).alias(0, 0, 2), 11);
        Check.due("HALF of 199", lowFive(199, 1).alias(0, 0, 2), 0);
        Check.due("HALF of 198", lowFive(198, 1).alias(0, 0, 2), 11);
        for (int longs = 1; longs <= 4; longs++) {
            DimStars x = new DimStars();
            x.star(1, 0, 1);
            Check.search(x, "beat 6 6;long " + longs + " " + longs);
            // the lowest HOURS are as many as its long, each six
            for (int hour = 0; hour < 24; hour++) {
                x.row(0, hour, hour % 6 < longs ? 0 : 900);
            }
            Check.due("first", x.found(0, 0, 0, 2), 0);
            // beat 3, first 0: 8 HOURS IN of 24 by long 1: half of them 0, mean 450; OUT 900: DEEP 450, SPREAD 112500
            // by long 2: 16 IN, mean 450: OUT 900; SPREAD 180000; 202500 * 16 / 180000
            long[] due = {202500L * 8 / 112500, 202500L * 16 / 180000, 0, 0};
            Check.due("HALF by long " + longs, x.alias(0, 0, 2), due[longs - 1]);
        }
        Check.due("HALF of beat 2", halfOfTwo(), 0);
    }

    private static long halfOfTwo() {
        DimStars x = new DimStars();
        x.star(1, 0, 1);
        Check.search(x, "beat 2 2");
        put(x, 0, 0, 0, 9, 0, 9);
        Check.due("beat 2", x.found(0, 0, 0, 0), 2);
        return x.alias(0, 0, 2);
    }

    private static void aliasOfSeveral() {
        // all three alike: as FOUND; f mod (b / 2) goes round
        DimStars x = lowFive(100, 1);
        Check.due("TWICE is alike", x.alias(0, 0, 1), x.found(0, 0, 0, 4));
        Check.due("HALF is alike", x.alias(0, 0, 2), x.found(0, 0, 0, 4));
        Check.due("as FOUND goes first", x.alias(0, 0, 0), 0);
        DimStars y = new DimStars();
        y.star(1, 0, 1);
        Check.search(y, "beat 6 6;long 1 2");
        // SPREAD 1; as FOUND HOURS 0, 6: 2; TWICE at 6: 4; HALF: HOURS 0, 3, 6, 9: 4
        put(y, 0, 0, 2, 2, 2, 2, 2, 2, 0, 3, 3, 0, 2);
        Check.due("TWICE", y.alias(0, 0, 1), 4);
        Check.due("HALF", y.alias(0, 0, 2), 4);
        Check.due("TWICE goes before HALF", y.alias(0, 0, 0), 1);
        // beat 20 and first 13 of a WORLD with beat 10 and first 3: HALF is better, its first is 13 mod 10
        DimStars z = dipping("world 1");
        z.row(0, 3, NOTHING);
        z.row(0, 4, NOTHING);
        Check.search(z, "beat 20 20;long 2 2");
        Check.due("first", z.found(1, 0, 0, 2), 13);
        Check.due("HALF is the greatest", z.alias(1, 0, 0), 2);
        Check.due("its SCORE", z.alias(1, 0, 2), z.tried(0, 0, 10, 2, 3, 4));
        Check.due("what 3", y.alias(0, 0, 3), -1);
        Check.due("what -1", y.alias(0, 0, -1), -1);
        y.star(1, 0, 1);
        Check.due("nothing is FOUND", y.alias(0, 1, 0), -2);
        Check.due("nothing is FOUND, 1", y.alias(0, 1, 1), -2);
        Check.due("no STAR", y.alias(0, 2, 1), -1);
    }

    /** DEEP is told: one low HOUR, and HOURS of 0. */
    private static DimStars deep(int deep) {
        DimStars x = new DimStars();
        x.star(1, 0, 1);
        Check.search(x, "beat 10 10;long 1 1");
        int low = deep > 30000 ? 30000 : 0;
        put(x, 0, 0, low, low, low - deep, low, low);
        Check.due("DEEP", x.found(0, 0, 0, 3), deep);
        return x;
    }

    private static void radiusAtTheLimit() {
        // DEEP * size * size by 100000: 90 * 100 * 100 is 9, 89.. is less
        int[][] due = {{90, 100, 3}, {89, 100, 2}, {91, 100, 3}, {160, 100, 4}, {159, 100, 3}, {10, 100, 1}, {9, 100, 0}, {1, 1, 0},
            {1, 316, 0}, {1, 317, 1}, {60000, 999, 773}, {60000, 1, 0}, {1, 999, 3}, {100, 999, 31}, {1002, 999, 99}, {1003, 999, 100}};
        for (int[] d : due) {
            DimStars x = deep(d[0]);
            x.resize(0, d[1]);
            Check.due("RADIUS of DEEP " + d[0] + ", size " + d[1], x.radius(0, 0), d[2]);
        }
        DimStars y = deep(90);
        y.star(1, 0, 1);
        Check.due("nothing is FOUND", y.radius(0, 1), -2);
        Check.due("no STAR", y.radius(0, 2), -1);
        Check.due("no SEARCH", y.radius(1, 0), -1);
    }

    private static void manyByRadius() {
        DimStars x = dipping("world 1");
        // STAR 0: 400 * 100 * 100 is 40: 6
        int[][] asked = {{0, 5}, {0, 6}, {6, 6}, {6, 7}, {7, 7}, {7, MOST}, {0, MOST}, {5, 5}, {0, 0}};
        int[] due = {0, 1, 1, 1, 0, 0, 1, 0, 0};
        for (int i = 0; i < asked.length; i++) {
            Check.due("from " + asked[i][0] + " to " + asked[i][1], x.many(0, 0, asked[i][0], asked[i][1], 0), due[i]);
        }
        // upside down STAR 0: beat 5, first 0, long 3: DEEP 200: 20: 4
        int[] falseOnes = {1, 1, 0, 0, 0, 0, 1, 0, 0};
        for (int i = 0; i < asked.length; i++) {
            Check.due("FALSE from " + asked[i][0] + " to " + asked[i][1], x.many(0, 0, asked[i][0], asked[i][1], 1), falseOnes[i]);
        }
        Check.due("FALSE from 4 to 4", x.many(0, 0, 4, 4, 1), 1);
        Check.due("from above to", x.many(0, 0, 7, 6, 0), -1);
        Check.due("from below 0", x.many(0, 0, -1, 6, 0), -1);
        x.resize(0, 1);
        Check.due("RADIUS 0", x.many(0, 0, 0, 0, 0), 1);
        Check.due("RADIUS 1", x.many(0, 0, 1, MOST, 0), 0);
    }

    private static void manySeen() {
        int[] lines = {125, 126};
        for (int line : lines) {
            DimStars x = dipping("world 1");
            Check.search(x, "beat 2 20;long 1 3;line " + line);
            Check.due("SEEN by line " + line, x.many(1, 0, 0, MOST, 0), line == 125 ? 1 : 0);
            // upside down: 60 HOURS IN, DEEP 200: 40000 * 60 / 25600 = 93
            Check.due("FALSE by line " + line, x.many(1, 0, 0, MOST, 1), 0);
        }
        int[] upside = {93, 94};
        for (int line : upside) {
            DimStars x = dipping("world 0");
            Check.search(x, "beat 2 20;long 1 3;line " + line);
            Check.due("SCORE upside down", x.found(1, 0, 1, 4), 93);
            Check.due("FALSE by line " + line, x.many(1, 0, 0, MOST, 1), line == 93 ? 1 : 0);
            Check.due("none is SORTED world", x.many(1, 0, 0, MOST, 0), 0);
        }
        DimStars y = new DimStars();
        Check.search(y, "line 0");
        Check.due("no SORTER", y.many(0, 0, 0, 1, 0), -1);
        Check.due("no SORTER, FALSE", y.many(0, 0, 0, 1, 1), -1);
        Check.sorter(y, "world 1");
        Check.due("no STARS", y.many(0, 0, 0, 1, 0), 0);
    }

    private static void folds() {
        DimStars x = new DimStars();
        x.star(1, 0, 1);
        Check.due("no numbers, how many", x.fold(0, 0, 2, 0, 0), 0);
        Check.due("no numbers, together", x.fold(0, 0, 2, 0, 1), 0);
        put(x, 0, 0, -30000, 7, 1);
        put(x, 0, 199, 5, 6);
        put(x, 0, 399, 50);
        x.row(0, 599, 500);
        Check.due("beat 200, p 199: how many", x.fold(0, 0, 200, 199, 0), 3);
        Check.due("beat 200, p 199: together", x.fold(0, 0, 200, 199, 1), 555);
        Check.due("beat 200, p 0: together", x.fold(0, 0, 200, 0, 1), -29994);
        Check.due("beat 2, p 0: how many", x.fold(0, 0, 2, 0, 0), 3);
        Check.due("beat 2, p 1: how many", x.fold(0, 0, 2, 1, 0), 4);
        Check.due("upside down", x.fold(0, 1, 200, 0, 1), 29994);
        // turned round HOUR 0 is at 450
        Check.due("turned round", x.fold(0, 2, 200, 50, 1), -30000);
        Check.due("beat 1", x.fold(0, 0, 1, 0, 0), -1000000000);
        Check.due("beat 201", x.fold(0, 0, 201, 0, 0), -1000000000);
        Check.due("p 200 of beat 200", x.fold(0, 0, 200, 200, 0), -1000000000);
        Check.due("p 2 of beat 2", x.fold(0, 0, 2, 2, 0), -1000000000);
        Check.due("p -1", x.fold(0, 0, 2, -1, 0), -1000000000);
        Check.due("part 2", x.fold(0, 0, 2, 0, 2), -1000000000);
        Check.due("part -1", x.fold(0, 0, 2, 0, -1), -1000000000);
    }

    private static void counts() {
        DimStars x = new DimStars();
        for (int what = 0; what < 8; what++) {
            Check.due("count " + what + " of a new one", x.count(what), 0);
        }
        Check.due("count -1", x.count(-1), -1);
        Check.due("count 8", x.count(8), -1);
        x.star(1, 0, 1);
        x.star(1, 0, 1);
        x.row(0, 0, 0);
        x.row(1, 599, -30000);
        Check.due("numbers, 0 is one", x.count(6), 2);
        x.row(0, 0, NOTHING);
        Check.due("nothing is none", x.count(6), 1);
        x.row(0, 0, NOTHING);
        Check.due("nothing again", x.count(6), 1);
    }
}
