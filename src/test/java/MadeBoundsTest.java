/** Bounds of part I beside the texts: SEASONS, dips of WORLDS, what is MADE, what is held, what goes round. */
public final class MadeBoundsTest {
    private static final int MOST = Integer.MAX_VALUE;

    private MadeBoundsTest() {
    }

    public static void main(String[] args) {
        seasons();
        dipOfAWorld();
        dipsAtTheEnds();
        severalWorlds();
        worldsOfOthers();
        sumHeld();
        rowHeld();
        brightWithout();
        draws();
        oneByOne();
        hoursMade();
        refusedMakes();
        byZero();
        towardsZero();
        roundInSums();
        roundInTests();
        roundInWeights();
        Check.end();
    }

    private static DimStars withLaw(String law) {
        DimStars x = new DimStars();
        x.star(50, 3, 1);
        Check.due(law, Check.law(x, law), 0);
        return x;
    }

    /** What a LAW makes of HOUR 0. */
    private static void made(String law, int due) {
        DimStars x = withLaw(law);
        x.make(0, 0, 0, 0, 0);
        Check.due(law, x.at(0, 0, 0), due);
    }

    private static void seasons() {
        DimStars x = withLaw("bright season");
        Check.due("all HOURS", x.make(0, 0, 0, 0, 599), 600);
        int[] hours = {0, 149, 150, 299, 300, 449, 450, 599};
        for (int i = 0; i < 8; i++) {
            Check.due("SEASON of HOUR " + hours[i], x.at(0, hours[i], 0), i / 2);
        }
    }

    private static void dipOfAWorld() {
        DimStars x = withLaw("bright 100");
        x.world(0, 10, 25, 3, 7, false);
        x.make(0, 0, 0, 0, 599);
        // (HOUR - first) below 0: none; its rest by 10 below 3
        int[] in = {25, 26, 27, 35, 36, 37, 595, 596, 597};
        int[] out = {0, 5, 6, 7, 15, 16, 17, 24, 28, 34, 38, 594, 598, 599};
        for (int hour : in) {
            Check.due("in the dip: " + hour, x.at(0, hour, 0), 93);
        }
        for (int hour : out) {
            Check.due("not in the dip: " + hour, x.at(0, hour, 0), 100);
        }
    }

    private static void dipsAtTheEnds() {
        DimStars x = withLaw("bright 100");
        x.world(0, 599, 0, 1, 1, false);
        x.world(0, 599, 599, 30, 20, false);
        x.world(0, 2, 590, 1, 300, false);
        x.make(0, 0, 0, 0, 599);
        Check.due("first HOUR, beat 599", x.at(0, 0, 0), 99);
        Check.due("HOUR 1", x.at(0, 1, 0), 100);
        Check.due("last HOUR: beat 599 and first 599", x.at(0, 599, 0), 79);
        Check.due("beat 2 before its first", x.at(0, 588, 0), 100);
        Check.due("beat 2 at its first", x.at(0, 590, 0), -200);
        Check.due("beat 2 behind it", x.at(0, 591, 0), 100);
        Check.due("beat 2 again", x.at(0, 598, 0), -200);
        DimStars y = withLaw("bright 100");
        y.world(0, 31, 0, 30, 1, false);
        y.make(0, 0, 0, 0, 61);
        Check.due("long 30 of beat 31, HOUR 29", y.at(0, 29, 0), 99);
        Check.due("its one HOUR out", y.at(0, 30, 0), 100);
        Check.due("the next dip", y.at(0, 31, 0), 99);
        Check.due("its end", y.at(0, 60, 0), 99);
        Check.due("out again", y.at(0, 61, 0), 100);
    }

    private static void severalWorlds() {
        DimStars x = withLaw("bright 20000");
        for (int i = 0; i < 40; i++) {
            x.world(0, 100, 5, 1, 1250, false);
        }
        x.make(0, 0, 0, 0, 9);
        Check.due("deep of each one: 40 * 1250", x.at(0, 5, 0), -30000);
        Check.due("beside the dip", x.at(0, 6, 0), 20000);
        DimStars y = withLaw("bright 0");
        for (int i = 0; i < 40; i++) {
            y.world(0, 100, 5, 1, 30000, false);
        }
        y.make(0, 0, 0, 5, 5);
        Check.due("held, however many", y.at(0, 5, 0), -30000);
    }

    private static void worldsOfOthers() {
        DimStars x = withLaw("bright 100");
        x.star(1, 0, 1);
        x.world(1, 10, 0, 1, 50, false);
        x.world(0, 10, 0, 1, 50, true);
        x.make(0, 0, 0, 0, 0);
        Check.due("neither another's nor one PUT IN", x.at(0, 0, 0), 100);
        x.make(0, 1, 0, 0, 0);
        Check.due("its own", x.at(1, 0, 0), 50);
        Check.due("a WORLD alone changes no ROW", x.world(0, 10, 0, 1, 50, false), 2);
        Check.due("till it is MADE", x.at(0, 0, 0), 100);
        x.make(0, 0, 0, 0, 0);
        Check.due("then it does", x.at(0, 0, 0), 50);
    }

    private static void sumHeld() {
        made("bright 19999", 19999);
        made("bright 20000", 20000);
        made("bright 20001", 20000);
        made("bright 99999", 20000);
        made("bright 0-19999", -19999);
        made("bright 0-20000", -20000);
        made("bright 0-20001", -20000);
        made("bright 0-99999", -20000);
        // the SUM is held before what is taken away
        DimStars x = withLaw("bright 20100");
        x.world(0, 10, 0, 1, 100, false);
        x.make(0, 0, 0, 0, 0);
        Check.due("held before deep", x.at(0, 0, 0), 19900);
    }

    private static void rowHeld() {
        int[] deep = {9999, 10000, 10001, 30000};
        int[] due = {-29999, -30000, -30000, -30000};
        for (int i = 0; i < 4; i++) {
            DimStars x = withLaw("bright 0-20000");
            x.world(0, 10, 0, 1, deep[i], false);
            x.make(0, 0, 0, 0, 0);
            Check.due("-20000 less " + deep[i], x.at(0, 0, 0), due[i]);
        }
        // by these seeds the draw is 9999 and -9999: held behind it, not before
        int[] seeds = {1481483907, 2088216195};
        int[] drawn = {-20001, -30000};
        for (int i = 0; i < 2; i++) {
            DimStars x = withLaw("bright 0-20000;noise 9999");
            x.world(0, 10, 0, 1, 10000, false);
            x.make(0, 0, seeds[i], 0, 0);
            Check.due("-30000 and a draw", x.at(0, 0, 0), drawn[i]);
            DimStars y = withLaw("bright 0-20000;noise 9999");
            y.world(0, 10, 0, 1, 20000, false);
            y.make(0, 0, seeds[i], 0, 0);
            Check.due("-40000 and a draw", y.at(0, 0, 0), -30000);
            DimStars z = withLaw("bright 99999;noise 9999");
            z.make(0, 0, seeds[i], 0, 0);
            Check.due("20000 and a draw", z.at(0, 0, 0), i == 0 ? 29999 : 10001);
        }
    }

    private static void brightWithout() {
        made("noise 0", 0);
        made("bright 5 if 1=2", 0);
        made("bright 5 if 1=2;bright 6 if 1=2", 0);
        made("bright 5 if 1=2;bright 6;bright 7", 6);
        made("bright 5;bright 6 if 1=1", 5);
        made("noise 0;bright 5 if 1=1;bright 6", 5);
        DimStars x = withLaw("noise 0");
        x.world(0, 10, 0, 1, 7, false);
        x.make(0, 0, 0, 0, 1);
        Check.due("0 less deep", x.at(0, 0, 0), -7);
        Check.due("0", x.at(0, 1, 0), 0);
    }

    private static void draws() {
        // seed 0: x is 12345, then 1406932606, 654583775; by 65536: 0, 21468, 9988; of 201 the rest: 0, 162, 139
        DimStars x = withLaw("noise 100");
        x.make(0, 0, 0, 10, 12);
        int[] due = {-100, 62, 39};
        for (int i = 0; i < 3; i++) {
            Check.due("draw " + i, x.at(0, 10 + i, 0), due[i]);
        }
        // the greatest seed: x is 2^31 - 1103515245 + 12345 = 1043980748; by 65536: 15929; of 201 the rest: 50
        x.make(0, 0, MOST, 0, 0);
        Check.due("the greatest seed", x.at(0, 0, 0), -50);
        // by this seed x is 2147483647: by 65536: 32767; of 201 the rest: 4; x then is 1043980748
        x.make(0, 0, 230538014, 0, 1);
        Check.due("the greatest x", x.at(0, 0, 0), -96);
        Check.due("behind the greatest x", x.at(0, 1, 0), -50);
    }

    /** A draw for each HOUR, from the seed on, whichever HOUR is the first. */
    private static void oneByOne() {
        DimStars x = withLaw("bright 1000;noise 500");
        DimStars y = withLaw("bright 1000;noise 500");
        x.make(0, 0, 77, 0, 9);
        y.make(0, 0, 77, 590, 599);
        for (int i = 0; i < 10; i++) {
            Check.due("draw " + i, y.at(0, 590 + i, 0), x.at(0, i, 0));
        }
        Check.due("made again", x.make(0, 0, 77, 5, 5), 1);
        Check.due("the first draw again", x.at(0, 5, 0), x.at(0, 0, 0));
    }

    private static void hoursMade() {
        DimStars x = withLaw("bright 5");
        Check.due("one HOUR", x.make(0, 0, 0, 7, 7), 1);
        Check.due("before it", x.at(0, 6, 0), -100000);
        Check.due("it", x.at(0, 7, 0), 5);
        Check.due("behind it", x.at(0, 8, 0), -100000);
        Check.due("the first HOUR", x.make(0, 0, 0, 0, 0), 1);
        Check.due("the last HOUR", x.make(0, 0, 0, 599, 599), 1);
        Check.due("numbers", x.count(6), 3);
        Check.due("all HOURS", x.make(0, 0, 0, 0, 599), 600);
        Check.due("numbers", x.count(6), 600);
        Check.due("some again", x.make(0, 0, 0, 100, 199), 100);
        Check.due("numbers", x.count(6), 600);
    }

    private static void refusedMakes() {
        DimStars x = withLaw("bright 5");
        int[][] wrong = {{0, 0, 0, 1, 0}, {0, 0, 0, 599, 598}, {0, 0, -1, 0, 0}, {0, 0, 0, -1, 0}, {0, 0, 0, 0, 600},
            {1, 0, 0, 0, 0}, {0, 1, 0, 0, 0}, {-1, 0, 0, 0, 0}, {0, -1, 0, 0, 0}, {0, 0, 0, 600, 600}, {0, 0, 0, -1, -1}};
        for (int[] w : wrong) {
            Check.due("make with something wrong", x.make(w[0], w[1], w[2], w[3], w[4]), -1);
            Check.due("no number comes", x.count(6), 0);
        }
        DimStars y = new DimStars();
        y.star(1, 0, 1);
        Check.due("no LAW", y.make(0, 0, 0, 0, 0), -1);
        Check.search(y, "line 1");
        Check.sorter(y, "world 1");
        Check.due("neither a SEARCH nor a SORTER is one", y.make(0, 0, 0, 0, 0), -1);
    }

    private static void byZero() {
        made("bright 7/0", 0);
        made("bright 0/0", 0);
        made("bright 7/hour", 0);
        made("bright 5+7/0", 5);
        made("bright 7/0*3+1", 1);
        made("bright 7*0/0-1", -1);
        made("bright 1 if 7/0=0", 1);
        made("bright 1 if 7/0/0<1", 1);
    }

    /** beat 20, long 4: edges 200 deep, middle so much deep; shape is what the middle has more. */
    private static DimStars withShape(int middle, String sorter) {
        DimStars x = withLaw("bright 1000");
        x.make(0, 0, 0, 0, 99);
        for (int k = 0; k < 5; k++) {
            int[] dip = {800, 1000 - middle, 1000 - middle, 800};
            for (int i = 0; i < 4; i++) {
                x.row(0, 5 + 20 * k + i, dip[i]);
            }
        }
        Check.search(x, "beat 20 20;long 4 4");
        Check.due("shape", x.sign(0, 0, 3), middle - 200);
        Check.due(sorter, Check.sorter(x, sorter), 0);
        return x;
    }

    private static void towardsZero() {
        made("bright 7/2", 3);
        made("bright 0-7/2", -3);
        made("bright 1/2", 0);
        made("bright 99999/99998", 1);
        made("bright 99998/99999", 0);
        // numbers below 0 by a WORD: -7 / 2 is -3, 7 / -7 is -1, 6 / -7 is 0
        DimStars x = withShape(193, "world 100+shape/2;pair 100+7/shape;spot 100+6/shape;glass 100+13/shape;chance 100+shape/shape");
        int[] due = {97, 99, 100, 99, 101};
        for (int sort = 0; sort < 5; sort++) {
            Check.due("towards 0, " + sort, x.weight(0, 0, 0, sort), due[sort]);
        }
        DimStars y = withShape(199, "world 100+shape/2;pair shape/shape;spot 5+shape/0;glass 100+shape*3;chance shape");
        int[] of = {100, 1, 5, 97, 0};
        for (int sort = 0; sort < 5; sort++) {
            Check.due("shape -1, " + sort, y.weight(0, 0, 0, sort), of[sort]);
        }
    }

    private static void roundInSums() {
        // 65536 * 65536 * 65536 * 32768 is 2 to the 63: the least number there is
        String least = "65536*65536*65536*32768";
        made("bright " + least, -20000);
        made("bright " + least + "-1", 20000);
        made("bright " + least + "+1", -20000);
        made("bright 0-" + least, -20000);
        made("bright " + least + "+" + least, 0);
        made("bright 7+" + least + "-" + least, 7);
        made("bright " + least + "*2", 0);
        made("bright " + least + "*65536+5", 5);
        // 2 to the 62, and once more
        made("bright 65536*65536*65536*16384", 20000);
        made("bright 65536*65536*65536*16384*2", -20000);
        made("bright 65536*65536*65536*16384*4+3", 3);
        // 99999 to the 4th is 99996000059999600001; less 5 times 2 to the 64 it is 7762279691451841921
        made("bright 99999*99999*99999*99999", 20000);
        made("bright 99999*99999*99999*99999/99999/99999/99999", 7762);
        made("bright " + least + "/65536/65536/65536", -20000);
        made("bright " + least + "/65536/65536/65536/32768", -1);
        // by -1 it goes round
        DimStars x = withShape(199, "world " + least + "/shape;pair " + least + "/shape-1;spot " + least + "*shape-1;glass 0-" + least + "-1");
        int[] due = {0, 99999, 99999, 99999};
        for (int sort = 0; sort < 4; sort++) {
            Check.due("the least number by -1, " + sort, x.weight(0, 0, 0, sort), due[sort]);
        }
    }

    private static void roundInTests() {
        String least = "65536*65536*65536*32768";
        made("bright 1 if " + least + "<0", 1);
        made("bright 1 if " + least + "-1>0", 1);
        made("bright 1 if " + least + "=0-" + least, 1);
        made("bright 1 if " + least + "<" + least + "-1", 1);
        made("bright 1 if " + least + "+" + least + "=0", 1);
        made("bright 1 if " + least + "*2>=1", 0);
        made("bright 1 if " + least + "<=" + least + "+1", 1);
    }

    private static void roundInWeights() {
        String least = "65536*65536*65536*32768";
        // two CLAUSES together go round, too
        DimStars x = withShape(300, "world " + least + ";world " + least + ";world 5;pair " + least + ";pair 0-1");
        Check.due("together 5", x.weight(0, 0, 0, 0), 5);
        Check.due("together the greatest number", x.weight(0, 0, 0, 1), 99999);
        DimStars y = withShape(300, "world " + least + "-1;world 1;pair " + least + "-1;spot 99999;spot 1-1;glass 99999;glass 1");
        int[] due = {0, 99999, 99999, 99999, 0};
        for (int sort = 0; sort < 5; sort++) {
            Check.due("together, " + sort, y.weight(0, 0, 0, sort), due[sort]);
        }
        DimStars z = withShape(300, "world 99998;pair 0-1;spot 5;spot 0-5;glass 1;glass 0-5;chance 100*1000-1");
        int[] of = {99998, 0, 0, 0, 99999};
        for (int sort = 0; sort < 5; sort++) {
            Check.due("held, " + sort, z.weight(0, 0, 0, sort), of[sort]);
        }
        // held behind the sum, not before: 100000, and 1
        DimStars w = withShape(300, "world 99999;world 99999;world 0-99998;pair 0-99999;pair 99999;pair 1");
        Check.due("held behind the sum", w.weight(0, 0, 0, 0), 99999);
        Check.due("held behind the sum, below", w.weight(0, 0, 0, 1), 1);
        DimStars v = withShape(300, "world 99999;world 1;world 0-2");
        Check.due("99998", v.weight(0, 0, 0, 0), 99998);
    }
}
