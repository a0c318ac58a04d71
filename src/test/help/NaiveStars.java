import java.math.BigInteger;
import java.util.ArrayList;
import java.util.HashMap;
import java.util.List;
import java.util.Map;

/** The document written down a second time, as slowly and plainly as it can be, to compare with. */
final class NaiveStars {
    static final class Star {
        int size;
        int cell;
        int luck;
        Integer[] row = new Integer[600];

        Star copy() {
            Star s = new Star();
            s.size = size;
            s.cell = cell;
            s.luck = luck;
            s.row = row.clone();
            return s;
        }
    }

    record World(int star, int beat, int first, int longs, int deep, boolean put) {
        boolean dip(int hour) {
            return hour - first >= 0 && (hour - first) % beat < longs;
        }
    }

    record Candidate(int star, int nights, int worth) {
    }

    record Found(int beat, int longs, int first, long deep, long score, int dips) {
    }

    interface Sum {
        long of(Map<String, Long> words);
    }

    interface Test {
        boolean of(Map<String, Long> words);
    }

    record Clause(String kind, Sum sum, Test test, int a, int b) {
    }

    static final class State {
        List<Star> stars = new ArrayList<>();
        List<World> worlds = new ArrayList<>();
        List<Candidate> candidates = new ArrayList<>();
        int wide = 20;
        int[] maskStars = new int[8];
        int[] maskBelow = new int[8];
        int order = 0;
        List<Integer> tape = new ArrayList<>();

        State copy() {
            State s = new State();
            for (Star star : stars) {
                s.stars.add(star.copy());
            }
            s.worlds.addAll(worlds);
            s.candidates.addAll(candidates);
            s.wide = wide;
            s.maskStars = maskStars.clone();
            s.maskBelow = maskBelow.clone();
            s.order = order;
            s.tape.addAll(tape);
            return s;
        }
    }

    State now = new State();
    State[] images = new State[4];
    List<List<List<Clause>>> texts = List.of(new ArrayList<>(), new ArrayList<>(), new ArrayList<>());

    static boolean in(long n, long a, long b) {
        return n >= a && n <= b;
    }

    boolean isStar(int s) {
        return in(s, 0, now.stars.size() - 1);
    }

    boolean isSearch(int s) {
        return in(s, 0, texts.get(1).size() - 1);
    }

    boolean isSorter(int s) {
        return in(s, 0, texts.get(2).size() - 1);
    }

    int star(int size, int cell, int luck) {
        if (now.stars.size() == 12 || !in(size, 1, 999) || !in(cell, 0, 7) || !in(luck, 1, 1000)) {
            return -1;
        }
        Star s = new Star();
        s.size = size;
        s.cell = cell;
        s.luck = luck;
        now.stars.add(s);
        return now.stars.size() - 1;
    }

    static int told(Integer n) {
        return n == null ? -100000 : n;
    }

    int row(int star, int hour, int n) {
        if (!isStar(star) || !in(hour, 0, 599) || !(n == -100000 || in(n, -30000, 30000))) {
            return -200000;
        }
        Integer[] row = now.stars.get(star).row;
        int was = told(row[hour]);
        row[hour] = n == -100000 ? null : Integer.valueOf(n);
        return was;
    }

    int resize(int star, int n) {
        if (!isStar(star) || !in(n, 1, 999)) {
            return -1;
        }
        int was = now.stars.get(star).size;
        now.stars.get(star).size = n;
        return was;
    }

    int wide(int n) {
        if (!in(n, 0, 50)) {
            return -1;
        }
        int was = now.wide;
        now.wide = n;
        return was;
    }

    boolean mask(int cell, int stars, int below) {
        if (!in(cell, 0, 7) || !in(stars, 0, 12) || !in(below, 0, 30000)) {
            return false;
        }
        now.maskStars[cell] = stars;
        now.maskBelow[cell] = below;
        return true;
    }

    int order(int n) {
        if (!in(n, 0, 23)) {
            return -1;
        }
        int was = now.order;
        now.order = n;
        return was;
    }

    static int[] orderOf(int n) {
        List<int[]> all = new ArrayList<>();
        for (int i = 0; i <= 3210; i++) {
            int[] d = {i / 1000, i / 100 % 10, i / 10 % 10, i % 10};
            int seen = 0;
            for (int x : d) {
                seen |= 1 << x;
            }
            if (seen == 15) {
                all.add(d);
            }
        }
        return all.get(n);
    }

    static long floor(long a, long b) {
        BigInteger[] q = BigInteger.valueOf(a).divideAndRemainder(BigInteger.valueOf(b));
        boolean down = q[1].signum() != 0 && q[1].signum() != Long.signum(b);
        return q[0].longValue() - (down ? 1 : 0);
    }

    static int hold(long n, long a, long b) {
        return (int) (n < a ? a : n > b ? b : n);
    }

    Long mean(Integer[] row, int from, int to) {
        long sum = 0;
        long n = 0;
        for (int h = from; h <= to; h++) {
            if (h >= 0 && h < 600 && row[h] != null) {
                sum += row[h];
                n++;
            }
        }
        return n == 0 ? null : Long.valueOf(floor(sum, n));
    }

    boolean masked(int cell, int hour) {
        if (now.maskStars[cell] == 0) {
            return false;
        }
        int n = 0;
        for (Star s : now.stars) {
            if (s.cell == cell && s.row[hour] != null && mean(s.row, 0, 599) - s.row[hour] > now.maskBelow[cell]) {
                n++;
            }
        }
        return n >= now.maskStars[cell];
    }

    Integer[] see(int star, int way) {
        Star s = now.stars.get(star);
        Integer[] seen = new Integer[600];
        for (int h = 0; h < 600; h++) {
            int season = h / 150;
            Integer n = s.row[h];
            switch (way) {
                case 0 -> seen[h] = n;
                case 1 -> seen[h] = n == null ? null : Integer.valueOf(-n);
                case 2 -> seen[h] = s.row[(3 - season) * 150 + h % 150];
                case 3 -> seen[h] = n == null ? null
                    : Integer.valueOf(hold(n - mean(s.row, h - now.wide, h + now.wide), -30000, 30000));
                case 4 -> seen[h] = n == null || masked(s.cell, h) ? null : n;
                default -> seen[h] = s.row[orderOf(now.order)[season] * 150 + h % 150];
            }
        }
        return seen;
    }

    int at(int star, int hour, int way) {
        if (!isStar(star) || !in(hour, 0, 599) || !in(way, 0, 5)) {
            return -200000;
        }
        return told(see(star, way)[hour]);
    }

    int world(int star, int beat, int first, int longs, int deep, boolean put) {
        if (now.worlds.size() == 40 || !isStar(star) || !in(beat, 2, 599) || !in(first, 0, 599)
            || !in(longs, 1, 30) || longs >= beat || !in(deep, 1, 30000)) {
            return -1;
        }
        now.worlds.add(new World(star, beat, first, longs, deep, put));
        return now.worlds.size() - 1;
    }

    int feed(int... n) {
        if (now.tape.size() + 20 > 400) {
            return -1;
        }
        for (int i : n) {
            for (int b = 3; b >= 0; b--) {
                now.tape.add(i >> 8 * b & 255);
            }
        }
        return now.tape.size();
    }

    int end(int n) {
        if (n < 0 || n > now.tape.size()) {
            return -1;
        }
        now.tape = new ArrayList<>(now.tape.subList(0, n));
        return n;
    }

    int text(int sort) {
        if (!in(sort, 0, 2) || texts.get(sort).size() == 6) {
            return -1;
        }
        NaiveText reader = new NaiveText(now.tape, sort);
        now.tape = new ArrayList<>();
        try {
            texts.get(sort).add(reader.read());
        } catch (NaiveText.Fault f) {
            return -2 - f.number;
        }
        return texts.get(sort).size() - 1;
    }

    int make(int law, int star, int seed, int from, int to) {
        if (!in(law, 0, texts.get(0).size() - 1) || !isStar(star) || seed < 0
            || !in(from, 0, 599) || !in(to, from, 599)) {
            return -1;
        }
        Star s = now.stars.get(star);
        BigInteger x = BigInteger.valueOf(seed);
        long noise = number(texts.get(0).get(law), "noise", 0)[0];
        for (int h = from; h <= to; h++) {
            Map<String, Long> w = new HashMap<>();
            w.put("hour", (long) h);
            w.put("season", (long) (h / 150));
            w.put("star", (long) star);
            w.put("cell", (long) s.cell);
            w.put("size", (long) s.size);
            long n = 0;
            for (Clause c : texts.get(0).get(law)) {
                if (c.kind.equals("bright") && (c.test == null || c.test.of(w))) {
                    n = hold(c.sum.of(w), -20000, 20000);
                    break;
                }
            }
            for (World d : now.worlds) {
                if (d.star == star && !d.put && d.dip(h)) {
                    n -= d.deep;
                }
            }
            x = x.multiply(BigInteger.valueOf(1103515245)).add(BigInteger.valueOf(12345)).mod(BigInteger.valueOf(2147483648L));
            n += x.longValue() / 65536 % (2 * noise + 1) - noise;
            s.row[h] = hold(n, -30000, 30000);
        }
        return to - from + 1;
    }

    static int[] number(List<Clause> text, String kind, int... without) {
        for (Clause c : text) {
            if (c.kind.equals(kind)) {
                return new int[] {c.a, c.b};
            }
        }
        return without;
    }

    static long spreadOf(Integer[] row) {
        long n = 0;
        long sum = 0;
        long squares = 0;
        for (Integer i : row) {
            if (i != null) {
                n++;
                sum += i;
                squares += (long) i * i;
            }
        }
        return n == 0 ? -1 : Math.max(1, floor(n * squares - sum * sum, n * n));
    }

    static int rest(int a, int b) {
        int r = a % b;
        return r < 0 ? r + b : r;
    }

    interface Hours {
        boolean has(int hour);
    }

    static Long deepOf(Integer[] row, Hours in, Hours out) {
        long a = 0;
        long an = 0;
        long b = 0;
        long bn = 0;
        for (int h = 0; h < 600; h++) {
            if (row[h] != null && in.has(h)) {
                a += row[h];
                an++;
            }
            if (row[h] != null && out.has(h)) {
                b += row[h];
                bn++;
            }
        }
        return an == 0 || bn == 0 ? null : Long.valueOf(floor(b * an - a * bn, an * bn));
    }

    static boolean isIn(int h, int b, int l, int f) {
        return rest(h - f, b) < l;
    }

    static boolean isDip(Integer[] row, int b, int l, int f, int k) {
        for (int h = f + k * b; h < f + k * b + l; h++) {
            if (h >= 0 && h < 600 && row[h] != null) {
                return true;
            }
        }
        return false;
    }

    static long triedOf(Integer[] row, int b, int l, int f, int what) {
        long in = 0;
        long out = 0;
        for (int h = 0; h < 600; h++) {
            if (row[h] != null) {
                if (isIn(h, b, l, f)) {
                    in++;
                } else {
                    out++;
                }
            }
        }
        Long deep = what == 2 || what == 4 ? deepOf(row, h -> isIn(h, b, l, f), h -> !isIn(h, b, l, f)) : null;
        switch (what) {
            case 0:
                return in;
            case 1:
                return out;
            case 2:
                return deep == null ? -100000 : deep;
            case 3:
                int dips = 0;
                for (int k = -700; k <= 700; k++) {
                    dips += isDip(row, b, l, f, k) ? 1 : 0;
                }
                return dips;
            default:
                return deep == null || deep < 1 ? 0 : floor(deep * deep * in, spreadOf(row));
        }
    }

    long tried(int star, int way, int beat, int longs, int first, int what) {
        if (!isStar(star) || !in(way, 0, 5) || !in(beat, 2, 200) || !in(longs, 1, 10) || longs >= beat
            || !in(first, 0, beat - 1) || !in(what, 0, 4)) {
            return -200000;
        }
        return triedOf(see(star, way), beat, longs, first, what);
    }

    Found find(int search, Integer[] row) {
        List<Clause> t = texts.get(1).get(search);
        int[] beats = number(t, "beat", 2, 100);
        int[] longs = number(t, "long", 1, 5);
        int least = number(t, "least", 1)[0];
        Found best = null;
        for (int b = beats[0]; b <= beats[1]; b++) {
            for (int l = longs[0]; l <= longs[1] && l < b; l++) {
                for (int f = 0; f < b; f++) {
                    long score = triedOf(row, b, l, f, 4);
                    if (score > 0 && (best == null || score > best.score)
                        && triedOf(row, b, l, f, 3) >= least) {
                        best = new Found(b, l, f, triedOf(row, b, l, f, 2), score, (int) triedOf(row, b, l, f, 3));
                    }
                }
            }
        }
        return best;
    }

    /** Kept from call to call as long as nothing may have changed: the naive search is slow. */
    final Map<String, Found> kept = new HashMap<>();

    Found find(int search, int star, int way) {
        Integer[] row = see(star, way);
        String key = search + " " + java.util.Arrays.toString(row);
        if (!kept.containsKey(key)) {
            kept.put(key, find(search, row));
        }
        return kept.get(key);
    }

    int lineOf(int search) {
        return number(texts.get(1).get(search), "line", 0)[0];
    }

    boolean seen(int search, Found f) {
        return f != null && f.score >= lineOf(search);
    }

    long part(int search, Found f, int what) {
        if (what == 6) {
            return seen(search, f) ? 1 : 0;
        }
        if (f == null) {
            return -1;
        }
        return new long[] {f.beat, f.longs, f.first, f.deep, f.score, f.dips}[what];
    }

    long found(int search, int star, int way, int what) {
        if (!isSearch(search) || !isStar(star) || !in(way, 0, 5) || !in(what, 0, 6)) {
            return -2;
        }
        return part(search, find(search, star, way), what);
    }

    long spread(int star) {
        return isStar(star) ? spreadOf(see(star, 0)) : -1;
    }

    boolean isPut(int world) {
        return in(world, 0, now.worlds.size() - 1) && now.worlds.get(world).put;
    }

    Found findPut(int search, World w) {
        Integer[] row = see(w.star, 0);
        for (int h = 0; h < 600; h++) {
            if (row[h] != null && w.dip(h)) {
                row[h] = Math.max(row[h] - w.deep, -30000);
            }
        }
        String key = search + " " + java.util.Arrays.toString(row);
        if (!kept.containsKey(key)) {
            kept.put(key, find(search, row));
        }
        return kept.get(key);
    }

    int catches(int search, int world) {
        if (!isSearch(search) || !isPut(world)) {
            return -1;
        }
        Found f = findPut(search, now.worlds.get(world));
        return seen(search, f) && f.beat == now.worlds.get(world).beat ? 1 : 0;
    }

    int[] caught(int search) {
        int[] n = new int[2];
        for (int i = 0; i < now.worlds.size(); i++) {
            if (isPut(i)) {
                n[0] += catches(search, i);
                n[1]++;
            }
        }
        return n;
    }

    static int lowest(int a, int b, int part) {
        if (b == 0) {
            return 0;
        }
        int g = BigInteger.valueOf(a).gcd(BigInteger.valueOf(b)).intValue();
        return part == 0 ? a / g : b / g;
    }

    int share(int search, int part) {
        if (!isSearch(search) || !in(part, 0, 1)) {
            return -1;
        }
        int[] n = caught(search);
        return lowest(n[0], n[1], part);
    }

    int chance(int search, int line, int way) {
        if (!isSearch(search) || !in(line, 0, 999999) || !in(way, 0, 5)) {
            return -1;
        }
        int n = 0;
        for (int s = 0; s < now.stars.size(); s++) {
            Found f = find(search, s, way);
            n += f != null && f.score >= line ? 1 : 0;
        }
        return n;
    }

    int line(int search, int step, int lost, int kept, int what) {
        if (!isSearch(search) || !in(step, 1, 99999) || !in(lost, 0, 999) || !in(kept, 0, 999) || !in(what, 0, 1)) {
            return -1;
        }
        long best = Long.MAX_VALUE;
        int line = 0;
        for (int i = 20; i >= 0; i--) {
            long cost = 0;
            for (World w : now.worlds) {
                if (w.put) {
                    Found f = findPut(search, w);
                    boolean good = f != null && f.beat == w.beat && f.score >= (long) i * step;
                    cost += good ? 0 : lost;
                }
            }
            for (int s = 0; s < now.stars.size(); s++) {
                Found f = find(search, s, 1);
                cost += f != null && f.score >= (long) i * step ? kept : 0;
            }
            if (cost <= best) {
                best = cost;
                line = i * step;
            }
        }
        return what == 0 ? line : (int) best;
    }

    static Integer shiftOf(Integer[] row, Found f, int k) {
        Integer best = null;
        long bs = 0;
        long bn = 0;
        for (int s = -3; s <= 3; s++) {
            long sum = 0;
            long n = 0;
            for (int i = 0; i < f.longs; i++) {
                int h = f.first + k * f.beat + s + i;
                if (h >= 0 && h < 600 && row[h] != null) {
                    sum += row[h];
                    n++;
                }
            }
            if (n == 0) {
                continue;
            }
            int c = best == null ? -1 : BigInteger.valueOf(sum).multiply(BigInteger.valueOf(bn))
                .compareTo(BigInteger.valueOf(bs).multiply(BigInteger.valueOf(n)));
            boolean nearer = best != null && (Math.abs(s) < Math.abs(best) || Math.abs(s) == Math.abs(best) && s < best);
            if (c < 0 || c == 0 && nearer) {
                best = s;
                bs = sum;
                bn = n;
            }
        }
        return best;
    }

    static Map<Integer, Integer> shifts(Integer[] row, Found f) {
        Map<Integer, Integer> all = new HashMap<>();
        for (int k = -400; k <= 400; k++) {
            if (isDip(row, f.beat, f.longs, f.first, k)) {
                all.put(k, shiftOf(row, f, k));
            }
        }
        return all;
    }

    long signOf(int search, int star, Found f, int what) {
        Integer[] row = see(star, 0);
        Hours out = h -> !isIn(h, f.beat, f.longs, f.first);
        Hours in = h -> isIn(h, f.beat, f.longs, f.first);
        Hours even = h -> in.has(h) && floor(h - f.first, f.beat) % 2 == 0;
        Hours odd = h -> in.has(h) && floor(h - f.first, f.beat) % 2 != 0;
        Hours middle = h -> in.has(h) && rest(h - f.first, f.beat) >= f.longs / 3
            && rest(h - f.first, f.beat) <= f.longs - 1 - f.longs / 3;
        Hours edges = h -> in.has(h) && !middle.has(h);
        Long e = deepOf(row, even, out);
        Long o = deepOf(row, odd, out);
        switch (what) {
            case 0:
                return e == null ? -100000 : e;
            case 1:
                return o == null ? -100000 : o;
            case 2:
                return e == null || o == null ? 0 : Math.abs(e - o);
            case 3:
                Long m = deepOf(row, middle, out);
                Long d = deepOf(row, edges, out);
                return m == null || d == null ? 0 : m - d;
            case 4:
                int n = 0;
                for (int s = 0; s < now.stars.size(); s++) {
                    Found g = find(search, s, 0);
                    n += s != star && seen(search, g) && g.beat == f.beat && g.first == f.first ? 1 : 0;
                }
                return n;
            default:
                int least = 9;
                int most = -9;
                for (int s : shifts(row, f).values()) {
                    least = Math.min(least, s);
                    most = Math.max(most, s);
                }
                return most < least ? 0 : most - least;
        }
    }

    int sign(int search, int star, int what) {
        if (!isSearch(search) || !isStar(star) || !in(what, 0, 5)) {
            return -200000;
        }
        Found f = find(search, star, 0);
        return f == null ? -200000 : (int) signOf(search, star, f, what);
    }

    int shift(int search, int star, int k) {
        if (!isSearch(search) || !isStar(star) || !in(k, -1, 300)) {
            return -200;
        }
        Found f = find(search, star, 0);
        if (f == null) {
            return -200;
        }
        Integer s = shiftOf(see(star, 0), f, k);
        return s == null ? -100 : s;
    }

    static final String[] SORTS = {"world", "pair", "spot", "glass", "chance"};

    int[] weights(int sorter, int search, int star) {
        if (!isSorter(sorter) || !isSearch(search) || !isStar(star)) {
            return null;
        }
        Found f = find(search, star, 0);
        if (f == null) {
            return null;
        }
        Map<String, Long> w = new HashMap<>();
        w.put("beat", (long) f.beat);
        w.put("long", (long) f.longs);
        w.put("deep", f.deep);
        w.put("score", f.score);
        w.put("dips", (long) f.dips);
        w.put("odd", signOf(search, star, f, 2));
        w.put("shape", signOf(search, star, f, 3));
        w.put("same", signOf(search, star, f, 4));
        w.put("late", signOf(search, star, f, 5));
        w.put("size", (long) now.stars.get(star).size);
        int[] all = new int[5];
        for (int i = 0; i < 5; i++) {
            long sum = 0;
            for (Clause c : texts.get(2).get(sorter)) {
                if (c.kind.equals(SORTS[i]) && (c.test == null || c.test.of(w))) {
                    sum += c.sum.of(w);
                }
            }
            all[i] = hold(sum, 0, 99999);
        }
        return all;
    }

    int weight(int sorter, int search, int star, int sort) {
        int[] w = weights(sorter, search, star);
        return w == null || !in(sort, 0, 4) ? -1 : w[sort];
    }

    int sorted(int sorter, int search, int star) {
        int[] w = weights(sorter, search, star);
        if (w == null) {
            return -1;
        }
        int best = 0;
        for (int i = 0; i < 5; i++) {
            best = w[i] > w[best] ? i : best;
        }
        return w[best] == 0 ? -2 : best;
    }

    int odds(int sorter, int search, int star, int sort, int part) {
        int[] w = weights(sorter, search, star);
        return w == null || !in(sort, 0, 4) || !in(part, 0, 1) ? -1
            : lowest(w[sort], w[0] + w[1] + w[2] + w[3] + w[4], part);
    }

    long truly(int search, int sorter) {
        if (!isSearch(search) || !isSorter(sorter)) {
            return -1;
        }
        int[] n = caught(search);
        if (n[0] == 0) {
            return -2;
        }
        long sum = 0;
        for (int s = 0; s < now.stars.size(); s++) {
            if (seen(search, find(search, s, 0)) && sorted(sorter, search, s) == 0) {
                sum += 1000000L * n[1] / ((long) now.stars.get(s).luck * n[0]);
            }
        }
        return sum;
    }

    int bound(int search, int luck) {
        if (!isSearch(search) || !in(luck, 1, 1000)) {
            return -1;
        }
        int[] n = caught(search);
        if (n[1] == 0 || luck * n[0] / n[1] == 0) {
            return -2;
        }
        long p = luck * n[0] / n[1];
        int often = 0;
        for (long v = 1000000; 20 * v >= 1000000; v = v * (1000 - p) / 1000) {
            often++;
        }
        return often;
    }

    long second(int search, int star, int what) {
        if (!isSearch(search) || !isStar(star) || !in(what, 0, 6)) {
            return -2;
        }
        Found f = find(search, star, 0);
        if (f == null) {
            return -2;
        }
        Integer[] row = see(star, 0);
        for (int h = 0; h < 600; h++) {
            if (isIn(h, f.beat, f.longs, f.first)) {
                row[h] = null;
            }
        }
        return part(search, find(search, row), what);
    }

    int next(int search, int star, int hour) {
        if (!isSearch(search) || !isStar(star) || !in(hour, 0, 99999)) {
            return -1;
        }
        Found f = find(search, star, 0);
        if (f == null) {
            return -2;
        }
        int h = f.first;
        while (h < hour) {
            h += f.beat;
        }
        return h;
    }

    long alias(int search, int star, int what) {
        if (!isSearch(search) || !isStar(star) || !in(what, 0, 2)) {
            return -1;
        }
        Found f = find(search, star, 0);
        if (f == null) {
            return -2;
        }
        Integer[] row = see(star, 0);
        long twice = 2 * f.beat > 200 ? 0 : Math.max(triedOf(row, 2 * f.beat, f.longs, f.first, 4),
            triedOf(row, 2 * f.beat, f.longs, f.first + f.beat, 4));
        long half = f.beat % 2 == 1 || f.longs >= f.beat / 2 ? 0
            : triedOf(row, f.beat / 2, f.longs, f.first % (f.beat / 2), 4);
        if (what > 0) {
            return what == 1 ? twice : half;
        }
        long most = Math.max(f.score, Math.max(twice, half));
        return most == f.score ? 0 : most == twice ? 1 : 2;
    }

    int radiusOf(Found f, int star) {
        long limit = f.deep * now.stars.get(star).size * now.stars.get(star).size;
        int r = 0;
        while ((long) (r + 1) * (r + 1) * 100000 <= limit) {
            r++;
        }
        return r;
    }

    int radius(int search, int star) {
        if (!isSearch(search) || !isStar(star)) {
            return -1;
        }
        Found f = find(search, star, 0);
        return f == null ? -2 : radiusOf(f, star);
    }

    int many(int search, int sorter, int from, int to, int what) {
        if (!isSearch(search) || !isSorter(sorter) || from < 0 || from > to || !in(what, 0, 1)) {
            return -1;
        }
        int n = 0;
        for (int s = 0; s < now.stars.size(); s++) {
            Found f = find(search, s, what);
            boolean counts = seen(search, f) && (what == 1 || sorted(sorter, search, s) == 0);
            n += counts && in(radiusOf(f, s), from, to) ? 1 : 0;
        }
        return n;
    }

    int finest() {
        int best = -1;
        for (int i = texts.get(1).size() - 1; i >= 0; i--) {
            if (best < 0 || caught(i)[0] > caught(best)[0]
                || caught(i)[0] == caught(best)[0] && chance(i, lineOf(i), 1) <= chance(best, lineOf(best), 1)) {
                best = i;
            }
        }
        return best;
    }

    int room(int search, int world) {
        if (!isSearch(search) || !in(world, 0, now.worlds.size() - 1)) {
            return -1;
        }
        int least = number(texts.get(1).get(search), "least", 1)[0];
        World w = now.worlds.get(world);
        int hours = 0;
        int begun = 0;
        while (begun < least) {
            if (hours >= w.first && (hours - w.first) % w.beat == 0) {
                begun++;
            }
            hours++;
        }
        return hours;
    }

    int other(int search, int star, int what) {
        if (!isSearch(search) || !isStar(star) || !in(what, 0, 1)) {
            return -3;
        }
        Found f = find(search, star, 0);
        if (f == null) {
            return -2;
        }
        Map<Integer, Integer> all = shifts(see(star, 0), f);
        if (what == 0) {
            return (int) all.values().stream().filter(s -> s != 0).count();
        }
        for (int p = 1; p <= 20; p++) {
            boolean some = false;
            boolean alike = true;
            for (int k : all.keySet()) {
                if (all.containsKey(k + p)) {
                    some = true;
                    alike &= all.get(k).equals(all.get(k + p));
                }
            }
            if (some && alike) {
                return p;
            }
        }
        return -1;
    }

    long fold(int star, int way, int beat, int p, int part) {
        if (!isStar(star) || !in(way, 0, 5) || !in(beat, 2, 200) || !in(p, 0, beat - 1) || !in(part, 0, 1)) {
            return -1000000000;
        }
        Integer[] row = see(star, way);
        long n = 0;
        long sum = 0;
        for (int h = p; h < 600; h += beat) {
            if (row[h] != null) {
                n++;
                sum += row[h];
            }
        }
        return part == 0 ? n : sum;
    }

    int candidate(int star, int nights, int worth) {
        if (now.candidates.size() == 12 || !isStar(star) || !in(nights, 1, 99) || !in(worth, 0, 9999)) {
            return -1;
        }
        now.candidates.add(new Candidate(star, nights, worth));
        return now.candidates.size() - 1;
    }

    int nights(int many, int what) {
        if (!in(many, 0, 9999) || !in(what, 0, 1)) {
            return -1;
        }
        int best = 0;
        int bw = 0;
        int bn = 0;
        for (int set = 0; set < 1 << now.candidates.size(); set++) {
            int n = 0;
            int w = 0;
            for (int i = 0; i < now.candidates.size(); i++) {
                if ((set >> i & 1) == 1) {
                    n += now.candidates.get(i).nights;
                    w += now.candidates.get(i).worth;
                }
            }
            if (n <= many && (w > bw || w == bw && n < bn)) {
                best = set;
                bw = w;
                bn = n;
            }
        }
        return what == 0 ? best : bw;
    }

    int count(int what) {
        switch (what) {
            case 0:
                return now.stars.size();
            case 1:
                return now.worlds.size();
            case 2:
            case 3:
            case 4:
                return texts.get(what - 2).size();
            case 5:
                return now.candidates.size();
            case 6:
                int n = 0;
                for (Star s : now.stars) {
                    for (Integer i : s.row) {
                        n += i == null ? 0 : 1;
                    }
                }
                return n;
            case 7:
                return now.tape.size();
            default:
                return -1;
        }
    }

    int image(int k) {
        if (!in(k, 0, 3)) {
            return -1;
        }
        images[k] = now.copy();
        return now.stars.size();
    }

    int back(int k) {
        if (!in(k, 0, 3) || images[k] == null) {
            return -1;
        }
        now = images[k].copy();
        return now.stars.size();
    }
}
