/** Texts that are fine and texts with a fault: 1 + 8 * its place and its sort. */
public final class FaultsTest {
    private static final int UNFIT = 0;
    private static final int NUMBER = 1;
    private static final int DEEP = 2;
    private static final int MANY = 3;
    private static final int CLAUSE = 4;

    private FaultsTest() {
    }

    public static void main(String[] args) {
        laws();
        searches();
        sorters();
        tests();
        depth();
        values();
        clauses();
        bytes();
        ofOnePlace();
        Check.end();
    }

    private static void fine(int sort, String text) {
        Check.due(text, Check.text(new DimStars(), sort, text), 0);
    }

    private static void fault(int sort, String text, int place, int kind) {
        DimStars x = new DimStars();
        Check.due(text, Check.text(x, sort, text), -2 - (1 + 8 * place + kind));
        Check.due("no text is there", x.count(2 + sort), 0);
        Check.due("the tape is empty", x.count(7), 0);
    }

    private static void laws() {
        fine(0, "bright 1");
        fine(0, "  bright1  ");
        fine(0, "bright hour+season-star*cell/size");
        fine(0, "noise 0");
        fine(0, "noise 9999;bright 0");
        fine(0, "bright 00001if 1=1;bright 2");
        fault(0, "", 0, UNFIT);
        fault(0, "   ", 3, UNFIT);
        fault(0, "bright", 6, UNFIT);
        fault(0, "bright ", 7, UNFIT);
        fault(0, "brigh 1", 0, UNFIT);
        fault(0, " brightx 1", 1, UNFIT);
        fault(0, "Bright 1", 0, UNFIT);
        fault(0, "bright 1 1", 9, UNFIT);
        fault(0, "bright 1 hour", 9, UNFIT);
        fault(0, "bright -1", 7, UNFIT);
        fault(0, "bright 1 +", 10, UNFIT);
        fault(0, "bright 1 + * 2", 11, UNFIT);
        fault(0, "bright beat", 7, UNFIT);
        fault(0, "bright hours", 7, UNFIT);
        fault(0, "bright hou", 7, UNFIT);
        fault(0, "bright if 1=1", 7, UNFIT);
        fault(0, "bright 99999; bright 100000", 21, NUMBER);
        fault(0, "bright 000001", 7, NUMBER);
        fault(0, "noise 10000", 6, NUMBER);
        fault(0, "noise 123456", 6, NUMBER);
        fault(0, "noise hour", 6, UNFIT);
        fault(0, "noise 1 + 1", 8, UNFIT);
        fault(0, "noise 1 if 1=1", 8, UNFIT);
        fault(0, "bright 1;", 9, UNFIT);
        fault(0, "bright 1;;bright 1", 9, UNFIT);
        fault(0, ";bright 1", 0, UNFIT);
        fault(0, "world 1", 0, UNFIT);
        fault(0, "line 1", 0, UNFIT);
        fault(0, "bright (1)", 7, UNFIT);
    }

    private static void searches() {
        fine(1, "beat 2 200;long 1 10;least 99;line 99999");
        fine(1, "line 0;least 1;long 10 10;beat 200 200");
        fine(1, "beat 2 2");
        fault(1, "beat 1 5", 5, NUMBER);
        fault(1, "beat 201 202", 5, NUMBER);
        fault(1, "beat 2 201", 7, NUMBER);
        fault(1, "beat 9 8", 7, NUMBER);
        fault(1, "beat 9 1", 7, NUMBER);
        fault(1, "beat 98", 7, UNFIT);
        fault(1, "beat 9;", 6, UNFIT);
        fault(1, "beat 9 9 9", 9, UNFIT);
        fault(1, "beat 9 9 and", 9, UNFIT);
        fault(1, "long 0 5", 5, NUMBER);
        fault(1, "long 1 11", 7, NUMBER);
        fault(1, "long 5 4", 7, NUMBER);
        fault(1, "least 0", 6, NUMBER);
        fault(1, "least 100", 6, NUMBER);
        fault(1, "line 100000", 5, NUMBER);
        fault(1, "line -1", 5, UNFIT);
        fault(1, "line 1;line 2", 7, CLAUSE);
        fault(1, "beat 2 3; long 1 2; beat 2 3", 20, CLAUSE);
        fault(1, "long 1 2;long 1 2", 9, CLAUSE);
        fault(1, "least 1;least 1", 8, CLAUSE);
        fault(1, "bright 1", 0, UNFIT);
        fault(1, "line 1 if 1=1", 7, UNFIT);
    }

    private static void sorters() {
        fine(2, "world 1;pair 2;spot 3;glass 4;chance 5;world 6");
        fine(2, "world beat+long+deep+score+dips+odd+shape+same+late+size");
        fault(2, "world hour", 6, UNFIT);
        fault(2, "world season", 6, UNFIT);
        fault(2, "world world", 6, UNFIT);
        fault(2, "worlds 1", 0, UNFIT);
        fault(2, "noise 1", 0, UNFIT);
        fault(2, "beat 1", 0, UNFIT);
    }

    private static void tests() {
        fine(0, "bright 1 if hour<1 or hour<=2 and hour=3 or not hour>=4 and [hour>5]");
        fine(0, "bright 1 if not not[[1<2]or 1=1]and 2>1");
        fine(0, "bright 1if 1<2and 1<2or 1<2");
        fault(0, "bright 1 if", 11, UNFIT);
        fault(0, "bright 1 if 1", 13, UNFIT);
        fault(0, "bright 1 if 1 <", 15, UNFIT);
        fault(0, "bright 1 if 1 < = 2", 16, UNFIT);
        fault(0, "bright 1 if 1 =< 2", 15, UNFIT);
        fault(0, "bright 1 if 1 == 2", 15, UNFIT);
        fault(0, "bright 1 if 1 <> 2", 15, UNFIT);
        fault(0, "bright 1 if 1 < 2 < 3", 18, UNFIT);
        fault(0, "bright 1 if [1 < 2", 18, UNFIT);
        fault(0, "bright 1 if 1 < 2]", 17, UNFIT);
        fault(0, "bright 1 if [1] < 2", 14, UNFIT);
        fault(0, "bright 1 if []", 13, UNFIT);
        fault(0, "bright 1 if [1 < 2;bright 2", 18, UNFIT);
        fault(0, "bright 1 if 1<2 andor 1<2", 16, UNFIT);
        fault(0, "bright 1 if 1<2 and or 1<2", 20, UNFIT);
        fault(0, "bright 1 if nothour<2", 12, UNFIT);
        fault(0, "bright 1 if 1<not 2", 14, UNFIT);
        fault(0, "bright 1 if not", 15, UNFIT);
        fault(0, "bright 1 if 1<2 if 1<2", 16, UNFIT);
        fault(0, "bright 1 if 1<2 not 1<2", 16, UNFIT);
        fault(0, "bright 1 if 1<1234567", 14, NUMBER);
    }

    private static void depth() {
        fine(0, "bright 1 if " + "[".repeat(10) + "1<2" + "]".repeat(10));
        fine(0, "bright 1 if " + "not ".repeat(10) + "1<2");
        fine(0, "bright 1 if " + "not [".repeat(5) + "1<2" + "]".repeat(5) + " and " + "[".repeat(10) + "1<2" + "]".repeat(10));
        fault(0, "bright 1 if " + "[".repeat(11) + "1<2" + "]".repeat(11), 22, DEEP);
        fault(0, "bright 1 if " + "not ".repeat(11) + "1<2", 12 + 40, DEEP);
        fault(0, "bright 1 if " + "not [".repeat(5) + " not 1<2", 12 + 25 + 1, DEEP);
        fault(0, "bright 1 if " + "not [".repeat(5) + "[", 12 + 25, DEEP);
        fault(0, "bright 1 if " + "[".repeat(300), 22, DEEP);
        fault(0, "bright 1 if " + "[".repeat(10) + "notx", 22, UNFIT);
        fault(0, "bright 1 if " + "[".repeat(10) + "]", 22, UNFIT);
    }

    private static void values() {
        // one VALUE and 59 more
        fine(0, "bright 1" + "+1".repeat(59));
        fault(0, "bright 1" + "+1".repeat(60), 8 + 59 * 2 + 1, MANY);
        fault(0, "bright 1" + "+1".repeat(59) + "+ hour", 8 + 59 * 2 + 2, MANY);
        // 20 clauses' worth: each FACT counts, at its SIGN
        fine(0, "bright 1" + "+1".repeat(56) + " if 1<1");
        fault(0, "bright 1" + "+1".repeat(57) + " if 1<1", 8 + 57 * 2 + 6, MANY);
        fault(0, "bright 1" + "+1".repeat(58) + " if 1<1", 8 + 58 * 2 + 5, MANY);
        fault(0, "bright 1" + "+1".repeat(59) + " if 1<1", 8 + 59 * 2 + 4, MANY);
        // over clauses, too; NUMBERS of noise are none
        fine(0, "noise 1;bright 1" + "+1".repeat(29) + ";bright 1" + "*1".repeat(29));
        fault(0, "noise 1;bright 1" + "+1".repeat(29) + ";bright 1" + "*1".repeat(30), 16 + 58 + 9 + 58 + 1, MANY);
    }

    private static void clauses() {
        fine(0, "bright 1" + ";bright 1".repeat(11));
        fine(0, "noise 1" + ";bright 1".repeat(11));
        fault(0, "bright 1" + ";bright 1".repeat(12), 8 + 11 * 9 + 1, CLAUSE);
        fault(0, "bright 1" + ";bright 1".repeat(11) + ";  noise 3", 8 + 11 * 9 + 3, CLAUSE);
        fault(0, "noise 1; noise 1", 9, CLAUSE);
        fault(2, "world 1" + ";pair 1".repeat(12), 7 + 11 * 7 + 1, CLAUSE);
    }

    private static void bytes() {
        fault(0, "bright\t1", 6, UNFIT);
        fault(0, "bright 1\u0000", 8, UNFIT);
        fault(0, "bright 1 \u00ff", 9, UNFIT);
        fault(0, "bright 1\n", 8, UNFIT);
        fault(0, "bright 1\u00a0", 8, UNFIT);
        String full = "bright 1" + " ".repeat(392);
        fine(0, full);
        fault(0, "bright  " + " ".repeat(392), 400, UNFIT);
    }

    private static void ofOnePlace() {
        String twelve = "bright 1" + ";bright 1".repeat(11) + ";";
        fault(0, twelve + "brigh 1", twelve.length(), UNFIT);
        fault(0, twelve, twelve.length(), UNFIT);
        fault(0, twelve + "1", twelve.length(), UNFIT);
        String sixty = "bright 1" + "+1".repeat(59) + "+";
        fault(0, sixty + "123456", sixty.length(), NUMBER);
        fault(0, sixty + "hou", sixty.length(), UNFIT);
        fault(0, sixty, sixty.length(), UNFIT);
    }
}
