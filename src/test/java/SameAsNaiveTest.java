import java.util.Random;

/** Draws runs of calls and compares every answer with that of the naive writing of the document. */
public final class SameAsNaiveTest {
    /** An object is promised for 512 calls, of which one step takes some twenty at most. */
    private static final int CALLS = 490;

    private final Random draw;
    private final String name;
    private DimStars x = new DimStars();
    private NaiveStars y = new NaiveStars();

    private SameAsNaiveTest(long seed) {
        draw = new Random(seed);
        name = "seed " + seed + ": ";
    }

    public static void main(String[] args) {
        int runs = args.length > 0 ? Integer.parseInt(args[0]) : 120;
        int from = args.length > 1 ? Integer.parseInt(args[1]) : 0;
        for (int seed = from; seed < from + runs; seed++) {
            new SameAsNaiveTest(seed).run();
        }
        Check.end();
    }

    private int upTo(int n) {
        return draw.nextInt(n + 1);
    }

    /** Mostly within, now and then at or beyond an edge. */
    private int near(int least, int most) {
        int edges = upTo(40);
        if (edges == 0) {
            return least - 1;
        }
        if (edges == 1) {
            return most + 1;
        }
        if (edges == 2) {
            return draw.nextBoolean() ? Integer.MIN_VALUE : Integer.MAX_VALUE;
        }
        if (edges == 3) {
            return draw.nextInt();
        }
        if (edges < 6) {
            return draw.nextBoolean() ? least : most;
        }
        return least + upTo(most - least);
    }

    private int someStar() {
        return near(0, Math.max(0, y.now.stars.size() - 1));
    }

    private int someText(int sort) {
        return near(0, Math.max(0, y.texts.get(sort).size() - 1));
    }

    private int someWorld() {
        return near(0, Math.max(0, y.now.worlds.size() - 1));
    }

    private void run() {
        int begin = Check.asked();
        int stars = 1 + upTo(5);
        for (int i = 0; i < stars; i++) {
            star(1 + upTo(998), upTo(2), 1 + upTo(999));
        }
        for (int i = 0; i < 1 + upTo(5); i++) {
            world(upTo(stars - 1), 2 + upTo(30), upTo(30), 1 + upTo(5), 1 + upTo(300), draw.nextBoolean());
        }
        for (int sort = 0; sort < 3; sort++) {
            for (int i = 0; i < 1 + upTo(2); i++) {
                writeText(sort, goodText(sort));
            }
        }
        for (int i = 0; i < stars; i++) {
            int from = draw.nextBoolean() ? 0 : upTo(560);
            make(0, i, draw.nextInt() & Integer.MAX_VALUE, from, from + upTo(599 - from));
        }
        int calls = 150 + upTo(150);
        for (int i = 0; i < calls && Check.asked() - begin < CALLS; i++) {
            step();
        }
    }

    private void star(int a, int b, int c) {
        Check.due(name + "star(" + a + ", " + b + ", " + c + ")", x.star(a, b, c), y.star(a, b, c));
    }

    private void world(int a, int b, int c, int d, int e, boolean f) {
        Check.due(name + "world(" + a + ", " + b + ", " + c + ", " + d + ", " + e + ", " + f + ")",
            x.world(a, b, c, d, e, f), y.world(a, b, c, d, e, f));
    }

    private void make(int a, int b, int c, int d, int e) {
        Check.due(name + "make(" + a + ", " + b + ", " + c + ", " + d + ", " + e + ")",
            x.make(a, b, c, d, e), y.make(a, b, c, d, e));
    }

    private void writeText(int sort, String text) {
        Check.due(name + "end(0)", x.end(0), y.end(0));
        for (int i = 0; i < text.length(); i += 20) {
            int[] n = new int[5];
            for (int j = 0; j < 20; j++) {
                n[j / 4] = n[j / 4] << 8 | (i + j < text.length() ? text.charAt(i + j) : 0);
            }
            Check.due(name + "feed", x.feed(n[0], n[1], n[2], n[3], n[4]), y.feed(n));
        }
        Check.due(name + "end(" + text.length() + ")", x.end(text.length()), y.end(text.length()));
        Check.due(name + "text(" + sort + ") of " + text, x.text(sort), y.text(sort));
    }

    private String goodText(int sort) {
        StringBuilder s = new StringBuilder();
        if (sort == 1) {
            int beat = upTo(9) == 0 ? 2 + upTo(190) : 2 + upTo(20);
            s.append("beat ").append(beat).append(' ').append(Math.min(200, beat + upTo(9)));
            int longs = 1 + upTo(2);
            s.append(";long ").append(longs).append(' ').append(longs + upTo(upTo(9) == 0 ? 7 : 3));
            if (draw.nextBoolean()) {
                s.append("; least ").append(1 + upTo(upTo(3) == 0 ? 98 : 12));
            }
            if (draw.nextBoolean()) {
                s.append("; line ").append(upTo(upTo(3) == 0 ? 99999 : 40));
            }
            return s.toString();
        }
        if (sort == 0) {
            s.append("noise ").append(upTo(3) == 0 ? upTo(9999) : upTo(60)).append(';');
        }
        for (int i = 0; i < 1 + upTo(3); i++) {
            s.append(i == 0 ? "" : ";");
            s.append(sort == 0 ? "bright" : NaiveStars.SORTS[upTo(4)]);
            s.append(' ').append(sum(sort));
            if (draw.nextBoolean()) {
                s.append(" if ").append(test(sort, 2));
            }
        }
        return s.length() > 400 ? goodText(sort) : s.toString();
    }

    private String sum(int sort) {
        StringBuilder s = new StringBuilder(value(sort));
        while (upTo(2) == 0) {
            s.append("+-*/".charAt(upTo(3)));
            s.append(upTo(4) == 0 ? " " : "").append(value(sort));
        }
        return s.toString();
    }

    private String value(int sort) {
        if (draw.nextBoolean()) {
            return Integer.toString(upTo(2) == 0 ? upTo(99999) : upTo(20));
        }
        String words = sort == 0 ? "hour season star cell size" : "beat long deep score dips odd shape same late size";
        String[] all = words.split(" ");
        return all[upTo(all.length - 1)];
    }

    private String test(int sort, int depth) {
        int kind = upTo(7);
        if (depth > 0 && kind == 0) {
            return "not " + test(sort, depth - 1);
        }
        if (depth > 0 && kind == 1) {
            return "[" + test(sort, depth - 1) + "]";
        }
        if (depth > 0 && kind < 5) {
            return test(sort, depth - 1) + (draw.nextBoolean() ? " or " : " and ") + test(sort, depth - 1);
        }
        String[] signs = {"<", "<=", "=", ">=", ">"};
        return sum(sort) + signs[upTo(4)] + sum(sort);
    }

    private void step() {
        int what = upTo(44);
        if (what < 14) {
            change(what);
        } else if (what < 26) {
            look(what);
        } else {
            judge(what);
        }
    }

    private void change(int what) {
        int a = someStar();
        switch (what) {
            case 0 -> star(near(1, 999), near(0, 7), near(1, 1000));
            case 1, 2 -> {
                int h = near(0, 599);
                int n = upTo(3) == 0 ? -100000 : upTo(3) == 0 ? near(-30000, 30000) : near(-300, 300);
                Check.due(name + "row(" + a + ", " + h + ", " + n + ")", x.row(a, h, n), y.row(a, h, n));
            }
            case 3 -> {
                int n = near(1, 999);
                Check.due(name + "resize(" + a + ", " + n + ")", x.resize(a, n), y.resize(a, n));
            }
            case 4 -> {
                int n = near(0, 50);
                Check.due(name + "wide(" + n + ")", x.wide(n), y.wide(n));
            }
            case 5 -> {
                int c = near(0, upTo(3) == 0 ? 7 : 2);
                int n = near(0, upTo(3) == 0 ? 12 : 2);
                int b = near(0, upTo(3) == 0 ? 30000 : 60);
                Check.due(name + "mask(" + c + ", " + n + ", " + b + ")", x.mask(c, n, b), y.mask(c, n, b));
            }
            case 6 -> {
                int n = near(0, 23);
                Check.due(name + "order(" + n + ")", x.order(n), y.order(n));
            }
            case 7 -> world(a, near(2, upTo(3) == 0 ? 599 : 30), near(0, upTo(3) == 0 ? 599 : 30),
                near(1, upTo(3) == 0 ? 30 : 6), near(1, upTo(3) == 0 ? 30000 : 400), draw.nextBoolean());
            case 8 -> tapeCall();
            case 9 -> {
                int sort = upTo(2);
                writeText(sort, upTo(1) == 0 ? goodText(sort) : spoilt(goodText(sort)));
            }
            case 10 -> make(someText(0), a, upTo(9) == 0 ? draw.nextInt() : draw.nextInt() & Integer.MAX_VALUE,
                near(0, 300), near(250, 599));
            case 11 -> {
                int n = near(1, 99);
                int w = near(0, upTo(1) == 0 ? 9999 : 5);
                Check.due(name + "candidate(" + a + ", " + n + ", " + w + ")", x.candidate(a, n, w), y.candidate(a, n, w));
            }
            case 12 -> {
                int k = near(0, 3);
                Check.due(name + "image(" + k + ")", x.image(k), y.image(k));
            }
            default -> {
                int k = near(0, 3);
                Check.due(name + "back(" + k + ")", x.back(k), y.back(k));
            }
        }
    }

    private void tapeCall() {
        if (draw.nextBoolean()) {
            int[] n = draw.ints(5).toArray();
            Check.due(name + "feed", x.feed(n[0], n[1], n[2], n[3], n[4]), y.feed(n));
        } else {
            int n = near(0, y.now.tape.size());
            Check.due(name + "end(" + n + ")", x.end(n), y.end(n));
        }
        if (upTo(3) == 0) {
            int sort = near(0, 2);
            Check.due(name + "text(" + sort + ")", x.text(sort), y.text(sort));
        }
    }

    private String spoilt(String text) {
        StringBuilder s = new StringBuilder(text);
        for (int i = 0; i <= upTo(2); i++) {
            int at = upTo(s.length());
            int kind = upTo(3);
            String[] parts = {"[", "]", "not ", " if ", ";", "=", "<", ">", "0", "1", "99999", "a", " ", "bright 1", "line 3",
                "noise 1", "world 7", " and ", " or ", "+", "A", "\u0000", "\u00ff", "hour", "size", "\t"};
            if (kind == 0 && at < s.length()) {
                s.deleteCharAt(at);
            } else if (kind == 1 && at < s.length()) {
                s.setLength(at);
            } else {
                s.insert(at, parts[upTo(parts.length - 1)]);
            }
        }
        return s.length() > 400 ? text : s.toString();
    }

    private void look(int what) {
        int a = someStar();
        int s = someText(1);
        int way = near(0, 5);
        switch (what) {
            case 14 -> {
                int h = near(0, 599);
                Check.due(name + "at(" + a + ", " + h + ", " + way + ")", x.at(a, h, way), y.at(a, h, way));
            }
            case 15, 16 -> {
                int b = near(2, upTo(3) == 0 ? 200 : 20);
                int l = near(1, upTo(3) == 0 ? 10 : 3);
                int f = near(0, b > 0 && b < 300 ? b - 1 : 10);
                for (int w = 0; w < 5; w++) {
                    Check.due(name + "tried(" + a + ", " + way + ", " + b + ", " + l + ", " + f + ", " + w + ")",
                        x.tried(a, way, b, l, f, w), y.tried(a, way, b, l, f, w));
                }
                int w = near(0, 4);
                Check.due(name + "tried(.., " + w + ")", x.tried(a, way, b, l, f, w), y.tried(a, way, b, l, f, w));
            }
            case 17, 18, 19 -> {
                for (int w = -1; w < 8; w++) {
                    Check.due(name + "found(" + s + ", " + a + ", " + way + ", " + w + ")",
                        x.found(s, a, way, w), y.found(s, a, way, w));
                }
            }
            case 20 -> Check.due(name + "spread(" + a + ")", x.spread(a), y.spread(a));
            case 21 -> {
                int w = someWorld();
                Check.due(name + "catches(" + s + ", " + w + ")", x.catches(s, w), y.catches(s, w));
            }
            case 22 -> {
                int p = near(0, 1);
                Check.due(name + "share(" + s + ", " + p + ")", x.share(s, p), y.share(s, p));
            }
            case 23 -> {
                int l = near(0, upTo(1) == 0 ? 999999 : 30);
                Check.due(name + "chance(" + s + ", " + l + ", " + way + ")", x.chance(s, l, way), y.chance(s, l, way));
            }
            case 24 -> {
                int st = near(1, upTo(1) == 0 ? 99999 : 30);
                int l = near(0, 999);
                int k = near(0, 999);
                for (int w = -1; w < 3; w++) {
                    Check.due(name + "line(" + s + ", " + st + ", " + l + ", " + k + ", " + w + ")",
                        x.line(s, st, l, k, w), y.line(s, st, l, k, w));
                }
            }
            default -> {
                int b = near(2, 200);
                int p = near(0, b > 0 && b < 300 ? b - 1 : 10);
                for (int w = -1; w < 3; w++) {
                    Check.due(name + "fold(" + a + ", " + way + ", " + b + ", " + p + ", " + w + ")",
                        x.fold(a, way, b, p, w), y.fold(a, way, b, p, w));
                }
            }
        }
    }

    private void judge(int what) {
        int a = someStar();
        int s = someText(1);
        int r = someText(2);
        switch (what) {
            case 26, 27 -> {
                for (int w = -1; w < 7; w++) {
                    Check.due(name + "sign(" + s + ", " + a + ", " + w + ")", x.sign(s, a, w), y.sign(s, a, w));
                }
            }
            case 28 -> {
                for (int i = 0; i < 6; i++) {
                    int k = near(-1, upTo(1) == 0 ? 300 : 40);
                    Check.due(name + "shift(" + s + ", " + a + ", " + k + ")", x.shift(s, a, k), y.shift(s, a, k));
                }
            }
            case 29 -> {
                for (int w = -1; w < 6; w++) {
                    Check.due(name + "weight(" + r + ", " + s + ", " + a + ", " + w + ")",
                        x.weight(r, s, a, w), y.weight(r, s, a, w));
                }
            }
            case 30 -> Check.due(name + "sorted(" + r + ", " + s + ", " + a + ")", x.sorted(r, s, a), y.sorted(r, s, a));
            case 31 -> {
                int w = near(0, 4);
                for (int p = -1; p < 3; p++) {
                    Check.due(name + "odds(" + r + ", " + s + ", " + a + ", " + w + ", " + p + ")",
                        x.odds(r, s, a, w, p), y.odds(r, s, a, w, p));
                }
            }
            case 32 -> Check.due(name + "truly(" + s + ", " + r + ")", x.truly(s, r), y.truly(s, r));
            case 33 -> {
                int l = near(1, 1000);
                Check.due(name + "bound(" + s + ", " + l + ")", x.bound(s, l), y.bound(s, l));
            }
            case 34 -> {
                int w = near(0, 6);
                Check.due(name + "second(" + s + ", " + a + ", " + w + ")", x.second(s, a, w), y.second(s, a, w));
            }
            case 35 -> {
                int h = near(0, 99999);
                Check.due(name + "next(" + s + ", " + a + ", " + h + ")", x.next(s, a, h), y.next(s, a, h));
            }
            case 36 -> {
                for (int w = -1; w < 4; w++) {
                    Check.due(name + "alias(" + s + ", " + a + ", " + w + ")", x.alias(s, a, w), y.alias(s, a, w));
                }
            }
            case 37 -> Check.due(name + "radius(" + s + ", " + a + ")", x.radius(s, a), y.radius(s, a));
            case 38 -> {
                int f = near(0, 3);
                int t = near(0, 100);
                for (int w = -1; w < 3; w++) {
                    Check.due(name + "many(" + s + ", " + r + ", " + f + ", " + t + ", " + w + ")",
                        x.many(s, r, f, t, w), y.many(s, r, f, t, w));
                }
            }
            case 39 -> Check.due(name + "finest()", x.finest(), y.finest());
            case 40 -> {
                int w = someWorld();
                Check.due(name + "room(" + s + ", " + w + ")", x.room(s, w), y.room(s, w));
            }
            case 41, 42 -> {
                for (int w = -1; w < 3; w++) {
                    Check.due(name + "other(" + s + ", " + a + ", " + w + ")", x.other(s, a, w), y.other(s, a, w));
                }
            }
            case 43 -> {
                int m = near(0, upTo(1) == 0 ? 9999 : 200);
                for (int w = -1; w < 3; w++) {
                    Check.due(name + "nights(" + m + ", " + w + ")", x.nights(m, w), y.nights(m, w));
                }
            }
            default -> {
                for (int w = -1; w < 9; w++) {
                    Check.due(name + "count(" + w + ")", x.count(w), y.count(w));
                }
            }
        }
    }
}
