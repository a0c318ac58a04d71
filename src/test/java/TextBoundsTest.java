/**
 * Every bound that part I tells of texts: the last text that is taken, with what it then does, and the first one
 * that is refused, with the place and the sort of its FAULT.
 */
public final class TextBoundsTest {
    private static final int LAW = 0;
    private static final int SEARCH = 1;
    private static final int SORTER = 2;
    private static final int UNFIT = 0;
    private static final int NUMBER = 1;
    private static final int DEEP = 2;
    private static final int MANY = 3;
    private static final int CLAUSE = 4;

    private TextBoundsTest() {
    }

    public static void main(String[] args) {
        bytes();
        faultsLeaveNothing();
        clauses();
        onceEach();
        digits();
        noise();
        beats();
        longs();
        leasts();
        lines();
        withoutClauses();
        words();
        blanks();
        otherBytes();
        signs();
        binding();
        depths();
        depthsEndAgain();
        values();
        ends();
        firstAlongTheText();
        leastOfOnePlace();
        Check.end();
    }

    private static void fine(int sort, String text) {
        Check.due(text, Check.text(new DimStars(), sort, text), 0);
    }

    /** A text with a FAULT: nothing comes of it but an empty TAPE. */
    private static void fault(int sort, String text, int place, int kind) {
        DimStars x = new DimStars();
        Check.due(text, Check.text(x, sort, text), -2 - (1 + 8 * place + kind));
        Check.due("no text comes of: " + text, x.count(2) + x.count(3) + x.count(4), 0);
        Check.due("the TAPE is empty behind: " + text, x.count(7), 0);
        String[] others = {"bright 1", "line 1", "world 1"};
        Check.due("the next one is read from its begin", Check.text(x, sort, others[sort]), 0);
    }

    /** What a LAW makes of an HOUR of STAR 1 (size 77, cell 6), beside STAR 0. */
    private static int madeAt(String law, int hour, int seed) {
        DimStars x = new DimStars();
        x.star(1, 0, 1);
        x.star(77, 6, 1);
        Check.due(law, Check.law(x, law), 0);
        Check.due("one HOUR", x.make(0, 1, seed, hour, hour), 1);
        return x.at(1, hour, 0);
    }

    private static void made(String law, int due) {
        Check.due(law, madeAt(law, 0, 0), due);
    }

    /** A STAR with 1000 at all HOURS but for the dips of a WORLD, 500 below that. */
    private static DimStars dips(int beat, int first, int longs, String search) {
        DimStars x = new DimStars();
        x.star(1, 0, 1);
        x.world(0, beat, first, longs, 500, false);
        Check.law(x, "bright 1000");
        x.make(0, 0, 0, 0, 599);
        Check.due(search, Check.search(x, search), 0);
        return x;
    }

    private static String blank(int many) {
        return " ".repeat(many);
    }

    private static void bytes() {
        made("bright 7" + blank(392), 7);
        made(blank(392) + "bright 7", 7);
        made("bright " + blank(391) + "17", 17);
        fault(LAW, blank(399) + "!", 399, UNFIT);
        fault(LAW, "bright 7" + blank(391) + "!", 399, UNFIT);
        fault(LAW, "bright" + blank(394), 400, UNFIT);
        // the 400th byte counts, one that is cut off does not
        DimStars x = new DimStars();
        x.star(1, 0, 1);
        Check.tape(x, blank(392) + "bright 7");
        Check.due("end(399)", x.end(399), 399);
        Check.due("the SUM is cut off", x.text(0), -2 - (1 + 8 * 399));
        Check.tape(x, "bright 12");
        Check.due("end(8)", x.end(8), 8);
        Check.due("a NUMBER is cut", x.text(0), 0);
        x.make(0, 0, 0, 0, 0);
        Check.due("bright 1", x.at(0, 0, 0), 1);
        Check.tape(x, "bright sizes");
        Check.due("end(11)", x.end(11), 11);
        Check.due("a WORD is cut", x.text(0), 1);
        x.make(1, 0, 0, 1, 1);
        Check.due("bright size", x.at(0, 1, 0), 1);
        Check.tape(x, "bright 1 if 1<=1");
        Check.due("end(14)", x.end(14), 14);
        Check.due("a SIGN is cut, and what is behind it", x.text(0), -2 - (1 + 8 * 14));
        made(blank(389) + "bright cell", 6);
        fault(LAW, blank(390) + "bright cel", 397, UNFIT);
        fault(LAW, blank(396) + "brig", 396, UNFIT);
        fault(LAW, blank(387) + "bright 1 if 1", 400, UNFIT);
        fault(LAW, blank(386) + "bright 1 if 1<", 400, UNFIT);
    }

    /** Of a text with a FAULT nothing is left in the next one. */
    private static void faultsLeaveNothing() {
        DimStars x = dips(10, 3, 2, "beat 10 10;long 2 2");
        Check.due("noise, then a FAULT", Check.law(x, "noise 500;bright 7 if 1=1;!"), -2 - (1 + 8 * 26));
        Check.due("without noise", Check.law(x, "bright hour"), 1);
        Check.due("bright, then a FAULT", Check.law(x, "bright 7;!"), -2 - (1 + 8 * 9));
        Check.due("noise alone", Check.law(x, "noise 0"), 2);
        Check.due("all NUMBERS, then a FAULT", Check.search(x, "beat 150 160;long 7 8;least 50;line 9999;!"), -2 - (1 + 8 * 41));
        Check.due("without NUMBERS", Check.search(x, "line 0"), 1);
        Check.due("all NUMBERS, then a FAULT again", Check.search(x, "beat 150 160;long 7 8;least 50;line 9999;!"), -2 - (1 + 8 * 41));
        Check.due("without a line", Check.search(x, "least 1"), 2);
        Check.due("weights, then a FAULT", Check.sorter(x, "world 5;pair 6;!"), -2 - (1 + 8 * 15));
        for (int i = 0; i < 12; i++) {
            Check.due("many VALUES, then a FAULT", Check.sorter(x, "world 1" + "+1".repeat(59) + "!"), -2 - (1 + 8 * 125));
        }
        Check.due("one weight", Check.sorter(x, "spot 1" + "+1".repeat(59)), 0);
        for (int search = 0; search < 3; search++) {
            Check.due("FOUND by " + search, x.found(search, 0, 0, 0), 10);
            Check.due("long by " + search, x.found(search, 0, 0, 1), 2);
            Check.due("SEEN by " + search, x.found(search, 0, 0, 6), 1);
        }
        int[] due = {0, 0, 60, 0, 0};
        for (int sort = 0; sort < 5; sort++) {
            Check.due("weight of " + sort, x.weight(0, 0, 0, sort), due[sort]);
        }
        x.make(1, 0, 5, 99, 99);
        x.make(2, 0, 5, 98, 98);
        Check.due("no noise", x.at(0, 99, 0), 99);
        Check.due("no bright", x.at(0, 98, 0), 0);
    }

    private static void clauses() {
        StringBuilder law = new StringBuilder();
        StringBuilder sorter = new StringBuilder();
        for (int i = 0; i < 12; i++) {
            law.append(i == 0 ? "" : ";").append("bright ").append(100 + i).append(" if hour=").append(i);
            sorter.append(i == 0 ? "" : ";").append("pair 1");
        }
        for (int hour = 0; hour < 12; hour++) {
            Check.due("clause " + hour, madeAt(law.toString(), hour, 0), 100 + hour);
        }
        Check.due("no clause", madeAt(law.toString(), 12, 0), 0);
        fault(LAW, law + ";bright 1", law.length() + 1, CLAUSE);
        fault(LAW, law + " ;  noise 1", law.length() + 4, CLAUSE);
        DimStars x = dips(10, 3, 2, "beat 10 10");
        Check.due("twelve of a SORTER", Check.sorter(x, sorter.toString()), 0);
        Check.due("all twelve count", x.weight(0, 0, 0, 1), 12);
        fault(SORTER, sorter + ";pair 1", sorter.length() + 1, CLAUSE);
        fault(SORTER, sorter + ";world 1", sorter.length() + 1, CLAUSE);
        // noise is a CLAUSE, too
        String eleven = "bright 1" + ";bright 1".repeat(10);
        fine(LAW, eleven + ";noise 1");
        fine(LAW, "noise 1;" + eleven);
        fault(LAW, eleven + ";noise 1;bright 1", eleven.length() + 9, CLAUSE);
        fault(LAW, eleven + ";bright 1;noise 1", eleven.length() + 10, CLAUSE);
        fine(SEARCH, "line 1;least 1;long 1 1;beat 2 2");
    }

    private static void onceEach() {
        String[] once = {"beat 2 2", "long 1 1", "least 1", "line 1"};
        for (int i = 0; i < 4; i++) {
            fine(SEARCH, once[i]);
            fault(SEARCH, once[i] + ";" + once[i], once[i].length() + 1, CLAUSE);
            String all = String.join(";", once);
            fault(SEARCH, all + ";  " + once[i], all.length() + 3, CLAUSE);
            for (int j = 0; j < 4; j++) {
                if (i != j) {
                    fine(SEARCH, once[i] + ";" + once[j]);
                    fault(SEARCH, once[i] + ";" + once[j] + ";" + once[i], once[i].length() + once[j].length() + 2, CLAUSE);
                }
            }
        }
        fault(LAW, "noise 1;noise 1", 8, CLAUSE);
        fault(LAW, "noise 1;bright 1;noise 1", 17, CLAUSE);
        // at its first byte, whatever comes behind it
        fault(SEARCH, "line 1;line 100000", 7, CLAUSE);
        fault(SEARCH, "line 1;line", 7, CLAUSE);
        String[] often = {"world", "pair", "spot", "glass", "chance"};
        for (String sort : often) {
            fine(SORTER, sort + " 1;" + sort + " 2");
        }
    }

    private static void digits() {
        made("bright 7", 7);
        made("bright 00007", 7);
        made("bright 12345", 12345);
        made("bright 99999/10", 9999);
        made("bright 00000", 0);
        fault(LAW, "bright 000007", 7, NUMBER);
        fault(LAW, "bright 100000", 7, NUMBER);
        fault(LAW, "bright 1+123456", 9, NUMBER);
        fault(LAW, "bright 1 if 1=123456", 14, NUMBER);
        fault(LAW, "bright 1 if 123456=1", 12, NUMBER);
        fault(LAW, "bright " + "9".repeat(393), 7, NUMBER);
        fault(SORTER, "world 100000", 6, NUMBER);
        fine(SORTER, "world 99999");
        fine(LAW, "noise 09999");
        fault(LAW, "noise 009999", 6, NUMBER);
        fine(SEARCH, "beat 00002 00200;long 00001 00010;least 00099;line 00000");
        fault(SEARCH, "beat 000002 200", 5, NUMBER);
        fault(SEARCH, "beat 2 000200", 7, NUMBER);
        fault(SEARCH, "long 000001 1", 5, NUMBER);
        fault(SEARCH, "long 1 000001", 7, NUMBER);
        fault(SEARCH, "least 000001", 6, NUMBER);
        fault(SEARCH, "line 000000", 5, NUMBER);
        // a blank ends a NUMBER
        fault(LAW, "bright 12345 6", 13, UNFIT);
    }

    private static void noise() {
        // seeds by which the first x / 65536 is 19998, 0, 19999 and 9999
        int[] seeds = {1481483907, 2088216195, 1135781507, 711108227};
        int[] most = {9999, -9999, -9999, 0};
        for (int i = 0; i < 4; i++) {
            Check.due("noise 9999", madeAt("bright 100;noise 9999", 0, seeds[i]), 100 + most[i]);
            Check.due("noise 0", madeAt("bright 100;noise 0", 0, seeds[i]), 100);
            Check.due("without noise", madeAt("bright 100", 0, seeds[i]), 100);
        }
        // 19998, 0, 19999, 9999 of 3 the rest: 0, 0, 1, 0
        int[] one = {-1, -1, 0, -1};
        for (int i = 0; i < 4; i++) {
            Check.due("noise 1", madeAt("noise 1;bright 100", 0, seeds[i]), 100 + one[i]);
        }
        fault(LAW, "noise 10000", 6, NUMBER);
        fault(LAW, "noise 99999", 6, NUMBER);
        fault(LAW, "noise -1", 6, UNFIT);
        fault(LAW, "noise", 5, UNFIT);
        fault(LAW, "noise hour", 6, UNFIT);
        fault(LAW, "noise 1 2", 8, UNFIT);
        fault(LAW, "noise 1+2", 7, UNFIT);
        fault(LAW, "noise 1 if 1=1", 8, UNFIT);
    }

    private static void beats() {
        Check.due("beat 200", dips(200, 5, 1, "beat 200 200").found(0, 0, 0, 0), 200);
        Check.due("beat 2 to 200", dips(200, 5, 1, "beat 2 200").found(0, 0, 0, 0), 200);
        Check.due("beat 2", dips(2, 1, 1, "beat 2 2").found(0, 0, 0, 0), 2);
        Check.due("the first of its beats", dips(20, 5, 1, "beat 20 29").found(0, 0, 0, 0), 20);
        Check.due("the last of its beats", dips(20, 5, 1, "beat 11 20").found(0, 0, 0, 0), 20);
        Check.due("none below the first", dips(20, 5, 1, "beat 21 39").found(0, 0, 0, 0) > 20, true);
        Check.due("none above the last", dips(20, 5, 1, "beat 11 19").found(0, 0, 0, 0) < 20, true);
        fault(SEARCH, "beat 1 200", 5, NUMBER);
        fault(SEARCH, "beat 0 200", 5, NUMBER);
        fault(SEARCH, "beat 2 201", 7, NUMBER);
        fault(SEARCH, "beat 201 201", 5, NUMBER);
        fault(SEARCH, "beat 99999 2", 5, NUMBER);
        fine(SEARCH, "beat 7 7");
        fine(SEARCH, "beat 7 8");
        fault(SEARCH, "beat 7 6", 7, NUMBER);
        fault(SEARCH, "beat 200 199", 9, NUMBER);
        fault(SEARCH, "beat 3 1", 7, NUMBER);
        fault(SEARCH, "beat", 4, UNFIT);
        fault(SEARCH, "beat 2", 6, UNFIT);
        fault(SEARCH, "beat 2;long 1 1", 6, UNFIT);
        fault(SEARCH, "beat 2 3 4", 9, UNFIT);
        fault(SEARCH, "beat 23", 7, UNFIT);
        fault(SEARCH, "beat 2-3", 6, UNFIT);
    }

    private static void longs() {
        Check.due("long 10", dips(50, 5, 10, "beat 50 50;long 10 10").found(0, 0, 0, 1), 10);
        Check.due("long 1 to 10", dips(50, 5, 10, "beat 50 50;long 1 10").found(0, 0, 0, 1), 10);
        Check.due("long 1", dips(50, 5, 10, "beat 50 50;long 1 1").found(0, 0, 0, 1), 1);
        Check.due("the first of its longs", dips(50, 5, 4, "beat 50 50;long 4 8").found(0, 0, 0, 1), 4);
        Check.due("the last of its longs", dips(50, 5, 4, "beat 50 50;long 2 4").found(0, 0, 0, 1), 4);
        Check.due("none below the first", dips(50, 5, 4, "beat 50 50;long 5 8").found(0, 0, 0, 1), 5);
        Check.due("none above the last", dips(50, 5, 4, "beat 50 50;long 1 3").found(0, 0, 0, 1), 3);
        Check.due("below the beat", dips(11, 5, 10, "beat 11 11;long 1 10").found(0, 0, 0, 1), 10);
        Check.due("not below the beat", dips(10, 5, 9, "beat 10 10;long 10 10").found(0, 0, 0, 1), -1);
        Check.due("just below the beat", dips(10, 5, 9, "beat 10 10;long 9 10").found(0, 0, 0, 1), 9);
        fault(SEARCH, "long 0 1", 5, NUMBER);
        fault(SEARCH, "long 1 11", 7, NUMBER);
        fault(SEARCH, "long 11 11", 5, NUMBER);
        fine(SEARCH, "long 3 3");
        fault(SEARCH, "long 3 2", 7, NUMBER);
        fault(SEARCH, "long 10 9", 8, NUMBER);
        fault(SEARCH, "long 1", 6, UNFIT);
        fault(SEARCH, "long 1 2 3", 9, UNFIT);
    }

    private static void leasts() {
        for (int hours = 98; hours <= 100; hours++) {
            DimStars x = new DimStars();
            x.star(1, 0, 1);
            Check.law(x, "bright hour-hour/2*2");
            Check.due("least 99", Check.search(x, "beat 2 2;least 99"), 0);
            x.make(0, 0, 0, 0, 2 * hours - 2);
            Check.due("of " + hours + " DIPS", x.tried(0, 0, 2, 1, 0, 3), hours);
            Check.due("by least 99", x.found(0, 0, 0, 5), hours < 99 ? -1 : hours);
        }
        for (int least = 1; least <= 3; least++) {
            DimStars x = dips(300, 5, 1, "beat 200 200;least " + least);
            x.make(0, 0, 0, 0, 599);
            x.row(0, 205, 600);
            // HOURS 5, 205, 405
            Check.due("three DIPS by least " + least, x.found(0, 0, 0, 5), 3);
        }
        Check.due("three DIPS by least 4", dips(300, 5, 1, "beat 200 200;least 4").found(0, 0, 0, 5), -1);
        fault(SEARCH, "least 0", 6, NUMBER);
        fault(SEARCH, "least 100", 6, NUMBER);
        fault(SEARCH, "least 1 2", 8, UNFIT);
        fault(SEARCH, "least", 5, UNFIT);
    }

    /** 320 HOURS IN, of which one has e and all others 0, and one HOUR OUT with d. */
    private static DimStars farAbove(int d, int e) {
        DimStars x = new DimStars();
        x.star(1, 0, 1);
        Check.law(x, "bright 0");
        for (int i = 0; i < 32; i++) {
            x.make(0, 0, 0, 12 * i, 12 * i + 9);
        }
        x.row(0, 0, e);
        x.row(0, 10, d);
        Check.due("line 99999", Check.search(x, "beat 12 12;long 10 10;line 99999"), 0);
        Check.due("line 99998", Check.search(x, "beat 12 12;long 10 10;line 99998"), 1);
        Check.due("no line", Check.search(x, "beat 12 12;long 10 10"), 2);
        Check.due("line 0", Check.search(x, "beat 12 12;long 10 10;line 0"), 3);
        return x;
    }

    private static void lines() {
        // DEEP 2884, SPREAD 26616: 2884 * 2884 * 320 / 26616; DEEP 2301, SPREAD 16943
        DimStars at = farAbove(2883, -500);
        DimStars below = farAbove(2300, -400);
        Check.due("a SCORE of 99999", at.found(0, 0, 0, 4), 99999);
        Check.due("a SCORE of 99998", below.found(0, 0, 0, 4), 99998);
        int[][] due = {{1, 0}, {1, 1}, {1, 1}, {1, 1}};
        for (int search = 0; search < 4; search++) {
            Check.due("SEEN at the line", at.found(search, 0, 0, 6), due[search][0]);
            Check.due("SEEN one below it", below.found(search, 0, 0, 6), due[search][1]);
        }
        fault(SEARCH, "line 100000", 5, NUMBER);
        fault(SEARCH, "line -1", 5, UNFIT);
        fault(SEARCH, "line", 4, UNFIT);
        fault(SEARCH, "line 1 1", 7, UNFIT);
    }

    private static void withoutClauses() {
        Check.due("beat 100", dips(100, 5, 1, "line 0").found(0, 0, 0, 0), 100);
        Check.due("beat 101 is not tried", dips(101, 5, 1, "line 0").found(0, 0, 0, 0) < 101, true);
        Check.due("beat 2", dips(2, 1, 1, "line 0").found(0, 0, 0, 0), 2);
        Check.due("long 5", dips(50, 5, 5, "beat 50 50").found(0, 0, 0, 1), 5);
        Check.due("long 6 is not tried", dips(50, 5, 6, "beat 50 50").found(0, 0, 0, 1), 5);
        Check.due("long 1", dips(50, 5, 1, "beat 50 50").found(0, 0, 0, 1), 1);
        DimStars one = dips(200, 5, 1, "beat 200 200");
        one.make(0, 0, 0, 200, 599);
        one.row(0, 205, -100000);
        one.row(0, 405, -100000);
        Check.due("least 1: one DIP is enough", one.found(0, 0, 0, 5), 1);
        Check.due("line 0: FOUND is SEEN", one.found(0, 0, 0, 6), 1);
        made("noise 0", 0);
        made("bright 5 if hour>0", 0);
    }

    private static void words() {
        String[] law = {"hour", "season", "star", "cell", "size"};
        int[] due = {599, 3, 1, 6, 77};
        for (int i = 0; i < 5; i++) {
            Check.due(law[i], madeAt("bright " + law[i], 599, 0), due[i]);
            Check.due(law[i] + " in a TEST", madeAt("bright 1 if " + law[i] + "=" + due[i], 599, 0), 1);
            if (i < 4) {
                fault(SORTER, "world " + law[i], 6, UNFIT);
            }
            fault(LAW, "bright " + law[i] + "s", 7, UNFIT);
            fault(LAW, "bright " + law[i].substring(1), 7, UNFIT);
            fault(LAW, "bright " + law[i].substring(0, law[i].length() - 1), 7, UNFIT);
        }
        String[] sorter = {"beat", "long", "deep", "score", "dips", "odd", "shape", "same", "late"};
        for (String word : sorter) {
            fine(SORTER, "world " + word);
            fine(SORTER, "chance 1 if " + word + "<1");
            fault(LAW, "bright " + word, 7, UNFIT);
            fault(SORTER, "world " + word + "x", 6, UNFIT);
            fault(SORTER, "world " + word.substring(1), 6, UNFIT);
        }
        fine(SORTER, "world size");
        String[] never = {"if", "and", "or", "not", "bright", "noise", "world", "line", "least", "NONE", "x"};
        for (String word : never) {
            fault(LAW, "bright 1+" + word, 9, UNFIT);
            fault(SORTER, "pair 1+" + word, 7, UNFIT);
        }
        // a WORD goes on as far as small letters do
        fault(LAW, "bright hourif 1=1", 7, UNFIT);
        fault(LAW, "brightif", 0, UNFIT);
        fine(LAW, "bright hour if 1=1");
        fine(LAW, "bright 1if 1=1");
        fault(LAW, "bright hour1", 11, UNFIT);
        fault(LAW, "bright 1hour", 8, UNFIT);
        fault(LAW, "bright hour if notstar=1", 15, UNFIT);
        fine(LAW, "bright hour if not[star=1]and 1=1");
    }

    private static void blanks() {
        made("bright3+4*5-6/2if hour<9and not[season>1]or star=0;noise0", 20);
        made("  bright  3  +  4  *  5  -  6  /  2  if  hour  <=  9  and  not  [  season  >=  1  ]  ;  noise  0  ", 20);
        fault(LAW, "bright 1 if 1 < = 2", 16, UNFIT);
        fault(LAW, "bright 1 if 1 > = 2", 16, UNFIT);
        fault(LAW, "br ight 1", 0, UNFIT);
        fault(LAW, "bright 1 2", 9, UNFIT);
        fault(SORTER, "world be at", 6, UNFIT);
    }

    private static void otherBytes() {
        int[] never = {0, 9, 10, 13, 31, 33, '"', '(', ')', ',', '.', ':', '?', '@', 'A', 'Z', '\\', '^', '_', '`', '{', '}',
            127, 128, 160, 176, 185, 225, 250, 255};
        for (int b : never) {
            String sign = String.valueOf((char) b);
            fault(LAW, sign, 0, UNFIT);
            fault(LAW, "bright" + sign + "1", 6, UNFIT);
            fault(LAW, "bright 1" + sign, 8, UNFIT);
            fault(LAW, "bright 1 if 1" + sign + "1", 13, UNFIT);
            fault(SEARCH, "line 1" + sign, 6, UNFIT);
            fault(SORTER, "world " + sign, 6, UNFIT);
        }
        fault(LAW, "bright 1]", 8, UNFIT);
        fault(LAW, "bright [1=1]", 7, UNFIT);
        fault(LAW, "bright 1=1", 8, UNFIT);
        fault(LAW, "bright 1<1", 8, UNFIT);
        fault(LAW, "bright 1 and 1", 9, UNFIT);
    }

    /** Each SIGN one below, at and one above. */
    private static void signs() {
        String[] sign = {"<", "<=", "=", ">=", ">"};
        int[][] due = {{1, 0, 0}, {1, 1, 0}, {0, 1, 0}, {0, 1, 1}, {0, 0, 1}};
        for (int i = 0; i < 5; i++) {
            for (int j = 0; j < 3; j++) {
                Check.due("hour " + (4 + j) + " " + sign[i] + " 5", madeAt("bright 1 if hour" + sign[i] + "5", 4 + j, 0), due[i][j]);
                Check.due("not", madeAt("bright 1 if not hour" + sign[i] + "5", 4 + j, 0), 1 - due[i][j]);
            }
            fault(LAW, "bright 1 if 1" + sign[i], 13 + sign[i].length(), UNFIT);
            fault(LAW, "bright 1 if " + sign[i] + "1", 12, UNFIT);
            fault(LAW, "bright 1 if 1" + sign[i] + "1" + sign[i] + "1", 14 + sign[i].length(), UNFIT);
        }
        fault(LAW, "bright 1 if 1 2", 14, UNFIT);
        fault(LAW, "bright 1 if 1 hour", 14, UNFIT);
        fault(LAW, "bright 1 if 1 and 1=1", 14, UNFIT);
        fault(LAW, "bright 1 if 1==1", 14, UNFIT);
        fault(LAW, "bright 1 if 1=<1", 14, UNFIT);
        fault(LAW, "bright 1 if 1=>1", 14, UNFIT);
        fault(LAW, "bright 1 if 1<>1", 14, UNFIT);
        fault(LAW, "bright 1 if 1><1", 14, UNFIT);
        fault(LAW, "bright 1 if 1<==1", 15, UNFIT);
        fault(LAW, "bright 1 if 1!=1", 13, UNFIT);
    }

    private static void binding() {
        made("bright 1 if 1=1 or 1=2 and 1=2", 1);
        made("bright 1 if [1=1 or 1=2] and 1=2", 0);
        made("bright 1 if 1=2 and 1=2 or 1=1", 1);
        made("bright 1 if 1=2 and [1=2 or 1=1]", 0);
        made("bright 1 if not 1=2 or 1=1", 1);
        made("bright 1 if not [1=2 or 1=1]", 0);
        made("bright 1 if not 1=1 and 1=2", 0);
        made("bright 1 if not [1=1 and 1=2]", 1);
        made("bright 1 if 1=2 or 1=2 or 1=1", 1);
        made("bright 1 if 1=2 or 1=1 or 1=2", 1);
        made("bright 1 if 1=1 or 1=2 or 1=2", 1);
        made("bright 1 if 1=2 and 1=1 and 1=1", 0);
        made("bright 1 if 1=1 and 1=1 and 1=2", 0);
        made("bright 1 if not not 1=1", 1);
        made("bright 2+3*4", 14);
        made("bright 2*3+4", 10);
        made("bright 20-6/2", 17);
        made("bright 20-6-2", 12);
        made("bright 20/6/2", 1);
        made("bright 20/6*2", 6);
        made("bright 20*6/7", 17);
        made("bright 1 if 2+3*4=14", 1);
        made("bright 1 if 3<2+2", 1);
        made("bright 1-2 if 1=1", -1);
    }

    private static void depths() {
        String head = "bright 1 if ";
        for (int not = 0; not <= 10; not++) {
            String deep = "not ".repeat(not) + "[".repeat(10 - not);
            Check.due("ten deep, " + not + " of them not", madeAt(head + deep + "1=1" + "]".repeat(10 - not), 0, 0), not % 2 == 0 ? 1 : 0);
            fault(LAW, head + deep + "[1=1]" + "]".repeat(10 - not), head.length() + deep.length(), DEEP);
            fault(LAW, head + deep + "not 1=1" + "]".repeat(10 - not), head.length() + deep.length(), DEEP);
            fault(LAW, head + deep + "  not not 1=1" + "]".repeat(10 - not), head.length() + deep.length() + 2, DEEP);
            fault(SORTER, "spot 1 if " + deep + "[", "spot 1 if ".length() + deep.length(), DEEP);
        }
        fault(LAW, head + "[".repeat(388), head.length() + 10, DEEP);
        fault(LAW, head + "not ".repeat(97), head.length() + 40, DEEP);
        fault(LAW, head + "[".repeat(10) + "]", head.length() + 10, UNFIT);
        fault(LAW, head + "[".repeat(10), head.length() + 10, UNFIT);
        fault(LAW, head + "[".repeat(10) + "1=1" + "]".repeat(9), head.length() + 22, UNFIT);
        fault(LAW, head + "[".repeat(10) + "1=1" + "]".repeat(11), head.length() + 23, UNFIT);
    }

    /** What is closed is no longer around what follows it. */
    private static void depthsEndAgain() {
        String deep = "[".repeat(10) + "1=1" + "]".repeat(10);
        made("bright 1 if " + deep + " and " + deep + " and " + deep, 1);
        made("bright 1 if " + "not ".repeat(10) + "1=1 and " + "not ".repeat(10) + "1=1", 1);
        made("bright 1 if " + deep + ";bright 2 if " + deep, 1);
        made("bright 1 if not " + deep.substring(1, 22) + " or " + deep, 1);
        String inner = "[".repeat(9) + "1=1" + "]".repeat(9);
        made("bright 1 if [" + inner + " and not" + inner.substring(1, 20) + "]", 0);
        made("bright 1 if [not" + inner.substring(1, 20) + " or " + inner + "]", 1);
        fault(LAW, "bright 1 if [" + inner + " and not " + inner + "]", 12 + 1 + 21 + 9 + 8, DEEP);
        fault(LAW, "bright 1 if " + deep + " and " + deep + " and [" + deep, 12 + 23 + 5 + 23 + 5 + 11 - 1, DEEP);
    }

    private static void values() {
        String sixty = "bright 1" + "+1".repeat(59);
        made(sixty, 60);
        fault(LAW, sixty + "+1", sixty.length() + 1, MANY);
        fault(LAW, sixty + "*  hour", sixty.length() + 3, MANY);
        fault(LAW, sixty + ";bright 1", sixty.length() + 8, MANY);
        made(sixty + ";noise 0", 60);
        made("noise 0;" + sixty, 60);
        // of 57 there are three left: VALUE, SIGN, VALUE
        String fiftySeven = "bright 1" + "+1".repeat(56);
        made(fiftySeven + " if 1=1", 57);
        made(fiftySeven + " if not [1=1]", 0);
        fault(LAW, fiftySeven + "+1 if 1=1", fiftySeven.length() + 8, MANY);
        fault(LAW, fiftySeven + "+1+1 if 1  >= 1", fiftySeven.length() + 11, MANY);
        fault(LAW, fiftySeven + "+1+1+1 if 1=1", fiftySeven.length() + 10, MANY);
        fault(LAW, fiftySeven + " if 1=1+1", fiftySeven.length() + 8, MANY);
        fault(LAW, fiftySeven + " if 1=1 and 1=1", fiftySeven.length() + 12, MANY);
        fault(LAW, fiftySeven + " if 1=1;bright 1", fiftySeven.length() + 15, MANY);
        // FACTS of a SIGN count, not, brackets and and do not: 18 FACTS with 36 VALUES, and that of the SUM
        String facts = "bright 1 if [1=1] and not not 1=1" + " and 1=1".repeat(16);
        made(facts + " and 1=1", 1);
        fault(LAW, facts + " and 1=1+1+1+1", facts.length() + 13, MANY);
        fine(SORTER, "world 1" + "+1".repeat(59));
        fault(SORTER, "world 1" + "+1".repeat(60), 7 + 119, MANY);
        fine(SORTER, "world 1" + "+1".repeat(28) + ";chance 1" + "+1".repeat(27) + " if 1=1");
        fault(SORTER, "world 1" + "+1".repeat(28) + ";chance 1" + "+1".repeat(28) + " if 1=1", 7 + 56 + 9 + 56 + 6, MANY);
        // NUMBERS of single CLAUSES are none
        fine(SEARCH, "beat 2 3;long 1 2;least 1;line 1");
    }

    /** The end can't stand there: its place is behind the last byte, blanks counted. */
    private static void ends() {
        String[] open = {"", "bright", "bright 1+", "bright 1 if", "bright 1 if 1", "bright 1 if 1<", "bright 1 if not",
            "bright 1 if [", "bright 1 if [1=1", "bright 1 if 1=1 and", "bright 1 if 1=1 or", "bright 1;", "noise"};
        for (String text : open) {
            fault(LAW, text, text.length(), UNFIT);
            fault(LAW, text + " ", text.length() + 1, UNFIT);
            fault(LAW, text + blank(400 - text.length()), 400, UNFIT);
        }
        String[] search = {"", "beat", "beat 2", "long", "long 1", "least", "line", "line 1;"};
        for (String text : search) {
            fault(SEARCH, text, text.length(), UNFIT);
            fault(SEARCH, text + "  ", text.length() + 2, UNFIT);
        }
        String[] sorter = {"", "world", "pair 1-", "world 1;"};
        for (String text : sorter) {
            fault(SORTER, text, text.length(), UNFIT);
        }
    }

    private static void firstAlongTheText() {
        fault(LAW, "bright 123456 !", 7, NUMBER);
        fault(LAW, "bright ! 123456", 7, UNFIT);
        fault(LAW, "noise 10000;noise 1", 6, NUMBER);
        fault(LAW, "noise 1;noise 10000", 8, CLAUSE);
        fault(SEARCH, "beat 5 4;beat 1 1", 7, NUMBER);
        fault(SEARCH, "beat 1 0", 5, NUMBER);
        fault(LAW, "bright 1 if " + "[".repeat(11) + "123456", 22, DEEP);
        fault(LAW, "bright 1 if " + "[".repeat(10) + "123456" + "[", 22, NUMBER);
        fault(LAW, "bright 1" + ";bright 1".repeat(12) + "!", 8 + 99 + 1, CLAUSE);
        fault(LAW, "bright 1" + "+1".repeat(60) + " if " + "[".repeat(11), 8 + 118 + 1, MANY);
        fault(LAW, "bright 1" + "+1".repeat(59) + " if " + "[".repeat(11) + "1=1", 8 + 118 + 4 + 10, DEEP);
        fault(LAW, "bright 1" + "+1".repeat(59) + " if [1=1]", 8 + 118 + 5, MANY);
    }

    private static void leastOfOnePlace() {
        String twelve = "bright 1" + ";bright 1".repeat(11) + ";";
        // a thirteenth CLAUSE must be one
        fault(LAW, twelve + "dark 1", twelve.length(), UNFIT);
        fault(LAW, twelve + "5", twelve.length(), UNFIT);
        fault(LAW, twelve, twelve.length(), UNFIT);
        fault(LAW, twelve + ";", twelve.length(), UNFIT);
        fault(LAW, twelve + "bright", twelve.length(), CLAUSE);
        String withNoise = "noise 1" + ";bright 1".repeat(11) + ";";
        fault(LAW, withNoise + "noise 1", withNoise.length(), CLAUSE);
        // a sixty-first VALUE must be one
        String sixty = "bright 1" + "+1".repeat(59) + "+";
        fault(LAW, sixty + "1", sixty.length(), MANY);
        fault(LAW, sixty + "123456", sixty.length(), NUMBER);
        fault(LAW, sixty + "12345", sixty.length(), MANY);
        fault(LAW, sixty + "beat", sixty.length(), UNFIT);
        fault(LAW, sixty + "[", sixty.length(), UNFIT);
        fault(LAW, sixty, sixty.length(), UNFIT);
        // a NUMBER that can't stand there is not looked at
        fault(LAW, "bright 1 123456", 9, UNFIT);
        fault(LAW, "123456", 0, UNFIT);
        fault(SEARCH, "beat 2 3 123456", 9, UNFIT);
        // nor a bracket or not
        fault(LAW, "bright 1 if " + "[".repeat(10) + "1=1 [", 12 + 14, UNFIT);
        fault(LAW, "bright 1 if " + "[".repeat(10) + "1=1 not", 12 + 14, UNFIT);
        // nor a SIGN
        fault(LAW, "bright 1" + "+1".repeat(59) + "<1", 8 + 118, UNFIT);
    }
}
