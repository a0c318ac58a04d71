/** Counts answers that are not as due, and feeds texts. */
final class Check {
    private static int wrong = 0;
    private static int asked = 0;

    private Check() {
    }

    static void due(String call, long got, long want) {
        asked++;
        if (got != want) {
            wrong++;
            if (wrong <= 50) {
                System.out.println(call + " answered " + got + ", due is " + want);
            }
        }
    }

    static void due(String call, boolean got, boolean want) {
        due(call, got ? 1 : 0, want ? 1 : 0);
    }

    /** How many answers were looked at so far. */
    static int asked() {
        return asked;
    }

    /** Puts a text on the tape, which has to be empty. */
    static void tape(DimStars x, String text) {
        for (int i = 0; i < text.length(); i += 20) {
            int[] n = new int[5];
            for (int j = 0; j < 20; j++) {
                int b = i + j < text.length() ? text.charAt(i + j) : 0;
                n[j / 4] = n[j / 4] << 8 | b;
            }
            x.feed(n[0], n[1], n[2], n[3], n[4]);
        }
        x.end(text.length());
    }

    static int text(DimStars x, int sort, String text) {
        tape(x, text);
        return x.text(sort);
    }

    static int law(DimStars x, String text) {
        return text(x, 0, text);
    }

    static int search(DimStars x, String text) {
        return text(x, 1, text);
    }

    static int sorter(DimStars x, String text) {
        return text(x, 2, text);
    }

    static void end() {
        System.out.println(wrong == 0 ? asked + " answers are as due" : wrong + " of " + asked + " answers are not as due");
        if (wrong != 0 || asked == 0) {
            System.exit(1);
        }
    }
}
