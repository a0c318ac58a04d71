import java.util.Random;

/** Drawn texts, rich in brackets and signs, read and worked out by both writings of the document. */
public final class TextsSameAsNaiveTest {
    private static final String[] TOKENS = {"bright ", "noise ", "world ", "pair ", "beat ", "long ", "least ", "line ", ";", ";",
        "hour", "season", "star", "cell", "size", "odd", "1", "2", "7", "150", "99999", "100000", "+", "-", "*", "/", "<", "<=", "=",
        ">=", ">", "[", "]", " not ", " and ", " or ", " if ", " ", "x", "\u0001", "\u0080"};
    private final Random draw;
    private final int sort;

    private TextsSameAsNaiveTest(long seed, int sort) {
        draw = new Random(seed);
        this.sort = sort;
    }

    public static void main(String[] args) {
        int runs = args.length > 0 ? Integer.parseInt(args[0]) : 1500;
        int from = args.length > 1 ? Integer.parseInt(args[1]) : 0;
        for (int seed = from; seed < from + runs; seed++) {
            new TextsSameAsNaiveTest(seed, 0).run(seed);
            new TextsSameAsNaiveTest(seed, seed % 3).read(seed);
        }
        Check.end();
    }

    /** A law of full length, worked out at some hours. */
    private void run(int seed) {
        DimStars x = new DimStars();
        NaiveStars y = new NaiveStars();
        x.star(37, 5, 1);
        y.star(37, 5, 1);
        x.star(2, 3, 1);
        y.star(2, 3, 1);
        StringBuilder s = new StringBuilder();
        int clauses = 1 + draw.nextInt(4);
        for (int i = 0; i < clauses; i++) {
            s.append(i == 0 ? "" : ";").append("bright ").append(sum(3)).append(" if ").append(test(1 + draw.nextInt(6)));
        }
        String text = s.length() > 400 ? s.substring(0, 400) : s.toString();
        if (same(x, y, 0, text, seed) != 0) {
            return;
        }
        int hour = draw.nextInt(550);
        Check.due("make", x.make(0, 1, seed, hour, hour + 49), y.make(0, 1, seed, hour, hour + 49));
        for (int h = hour; h < hour + 50; h++) {
            Check.due("hour " + h + " by " + text, x.at(1, h, 0), y.at(1, h, 0));
        }
    }

    private void read(int seed) {
        StringBuilder s = new StringBuilder(new String[] {"bright ", "", "world "}[sort]);
        int many = 1 + draw.nextInt(30);
        for (int i = 0; i < many; i++) {
            s.append(TOKENS[draw.nextInt(TOKENS.length)]);
        }
        same(new DimStars(), new NaiveStars(), sort, s.toString(), seed);
    }

    private int same(DimStars x, NaiveStars y, int sortTold, String text, int seed) {
        String cut = text.length() > 400 ? text.substring(0, 400) : text;
        Check.tape(x, cut);
        for (int i = 0; i < cut.length(); i++) {
            y.now.tape.add((int) cut.charAt(i));
        }
        int got = x.text(sortTold);
        Check.due("seed " + seed + ": " + cut, got, y.text(sortTold));
        return got;
    }

    private String value() {
        String[] all = {"hour", "season", "star", "cell", "size"};
        int kind = draw.nextInt(10);
        return kind < 5 ? all[kind] : Integer.toString(draw.nextInt(kind < 9 ? 9 : 99999));
    }

    private String sum(int most) {
        StringBuilder s = new StringBuilder(value());
        for (int i = draw.nextInt(most); i > 0; i--) {
            s.append("+-*/".charAt(draw.nextInt(4))).append(value());
        }
        return s.toString();
    }

    private String test(int depth) {
        int kind = draw.nextInt(9);
        if (depth == 0 || kind == 0) {
            String[] signs = {"<", "<=", "=", ">=", ">"};
            return sum(2) + signs[draw.nextInt(5)] + sum(2);
        }
        if (kind < 3) {
            return "not " + test(depth - 1);
        }
        if (kind < 5) {
            return "[" + test(depth - 1) + "]";
        }
        return test(depth - 1) + (draw.nextBoolean() ? " or " : " and ") + test(depth - 1);
    }
}
