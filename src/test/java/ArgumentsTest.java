/**
 * Each argument of each call by itself: the last values that are taken, the first ones that are refused, the
 * least and the greatest number there is; of refused calls later ones may show nothing.
 */
public final class ArgumentsTest {
    private static final int LEAST = Integer.MIN_VALUE;
    private static final int MOST = Integer.MAX_VALUE;

    private ArgumentsTest() {
    }

    public static void main(String[] args) {
        house();
        changesShow();
        stars();
        rows();
        worlds();
        tape();
        makes();
        trials();
        findings();
        catching();
        signs();
        sorting();
        counting();
        more();
        nights();
        images();
        Check.end();
    }

    private static void house() {
        Check.due("calls are left", House.spareCalls() > 0, true);
        DimStars x = House.small();
        int[] due = {3, 4, 2, 2, 2, 4, 301, 6};
        for (int what = 0; what < 8; what++) {
            Check.due("count " + what + " of the house", x.count(what), due[what]);
        }
        for (int search = 0; search < 2; search++) {
            Check.due("FOUND in STAR 0", x.found(search, 0, 0, 0), 10);
            Check.due("FOUND in STAR 1", x.found(search, 1, 0, 0), 12);
            Check.due("not FOUND in STAR 2", x.found(search, 2, 0, 0), -1);
            Check.due("WORLD 1 is CAUGHT", x.catches(search, 1), 1);
            Check.due("WORLD 2 is not", x.catches(search, 2), 0);
        }
    }

    private static void changesShow() {
        House.seen("star", x -> x.star(1, 1, 1));
        House.seen("row", x -> x.row(2, 149, 5));
        House.seen("row to nothing", x -> x.row(0, 0, -100000));
        House.seen("resize", x -> x.resize(2, 5));
        House.seen("wide", x -> x.wide(10));
        House.seen("mask", x -> x.mask(0, 0, 100) ? 1 : 0);
        House.seen("mask of another cell", x -> x.mask(7, 0, 0) ? 1 : 0);
        House.seen("order", x -> x.order(0));
        House.seen("world", x -> x.world(0, 9, 1, 1, 1, false));
        House.seen("feed", x -> x.feed(0, 0, 0, 0, 0));
        House.seen("end", x -> x.end(5));
        House.seen("text", x -> x.text(1));
        House.seen("text with a fault", x -> x.text(0));
        House.seen("make", x -> x.make(1, 0, 3, 0, 9));
        House.seen("candidate", x -> x.candidate(0, 1, 0));
        House.seen("image", x -> x.image(0));
        House.seen("image again", x -> x.image(1));
        House.seen("back", x -> x.back(1));
    }

    /** A call that changes something if it is taken. */
    private static void changing(String name, long refusal, int least, int most, House.OpenCall call) {
        House.taken(name + " " + least, false, refusal, x -> call.on(x, least));
        House.taken(name + " " + most, false, refusal, x -> call.on(x, most));
        outside(name, refusal, least, most, call);
    }

    private static void asking(String name, long refusal, int least, int most, House.OpenCall call) {
        House.asks(name + " " + least, refusal, x -> call.on(x, least));
        House.asks(name + " " + most, refusal, x -> call.on(x, most));
        outside(name, refusal, least, most, call);
    }

    private static void outside(String name, long refusal, int least, int most, House.OpenCall call) {
        int[] wrong = {least - 1, most + 1, LEAST, MOST};
        for (int n : wrong) {
            if (n < least || n > most) {
                House.refused(name + " " + n, false, refusal, x -> call.on(x, n));
            }
        }
    }

    private static void refused(String name, long refusal, House.Call call) {
        House.refused(name, false, refusal, call);
    }

    private static void stars() {
        changing("star: size", -1, 1, 999, (x, n) -> x.star(n, 0, 1));
        changing("star: cell", -1, 0, 7, (x, n) -> x.star(1, n, 1));
        changing("star: luck", -1, 1, 1000, (x, n) -> x.star(1, 0, n));
        changing("resize: star", -1, 0, 2, (x, n) -> x.resize(n, 5));
        changing("resize: n", -1, 1, 999, (x, n) -> x.resize(1, n));
    }

    private static void rows() {
        changing("row: star", -200000, 0, 2, (x, n) -> x.row(n, 0, 5));
        changing("row: hour", -200000, 0, 599, (x, n) -> x.row(0, n, 5));
        changing("row: n", -200000, -30000, 30000, (x, n) -> x.row(0, 5, n));
        changing("row: nothing", -200000, -100000, -100000, (x, n) -> x.row(0, 5, n));
        changing("wide", -1, 0, 50, (x, n) -> x.wide(n));
        changing("mask: cell", 0, 0, 7, (x, n) -> x.mask(n, 1, 1) ? 1 : 0);
        changing("mask: stars", 0, 0, 12, (x, n) -> x.mask(0, n, 1) ? 1 : 0);
        changing("mask: below", 0, 0, 30000, (x, n) -> x.mask(0, 1, n) ? 1 : 0);
        changing("mask: below of no HOURS", 0, 0, 30000, (x, n) -> x.mask(0, 0, n) ? 1 : 0);
        changing("order", -1, 0, 23, (x, n) -> x.order(n));
        asking("at: star", -200000, 0, 2, (x, n) -> x.at(n, 0, 0));
        asking("at: hour", -200000, 0, 599, (x, n) -> x.at(0, n, 0));
        asking("at: way", -200000, 0, 5, (x, n) -> x.at(0, 0, n));
    }

    private static void worlds() {
        for (int isPut = 0; isPut < 2; isPut++) {
            boolean put = isPut == 1;
            changing("world: star", -1, 0, 2, (x, n) -> x.world(n, 10, 0, 1, 1, put));
            changing("world: beat", -1, 2, 599, (x, n) -> x.world(0, n, 0, 1, 1, put));
            changing("world: first", -1, 0, 599, (x, n) -> x.world(0, 10, n, 1, 1, put));
            changing("world: long", -1, 1, 30, (x, n) -> x.world(0, 599, 0, n, 1, put));
            changing("world: deep", -1, 1, 30000, (x, n) -> x.world(0, 10, 0, 1, n, put));
            changing("world: long below beat 31", -1, 1, 30, (x, n) -> x.world(0, 31, 0, n, 1, put));
            changing("world: long below beat 30", -1, 1, 29, (x, n) -> x.world(0, 30, 0, n, 1, put));
            changing("world: long below beat 2", -1, 1, 1, (x, n) -> x.world(0, 2, 0, n, 1, put));
        }
    }

    private static void tape() {
        changing("end", -1, 0, 6, (x, n) -> x.end(n));
        changing("text", -1, 0, 2, (x, n) -> x.text(n));
    }

    private static void makes() {
        changing("make: law", -1, 0, 1, (x, n) -> x.make(n, 0, 1, 0, 9));
        changing("make: star", -1, 0, 2, (x, n) -> x.make(0, n, 1, 0, 9));
        changing("make: seed", -1, 0, MOST, (x, n) -> x.make(0, 0, n, 0, 9));
        changing("make: from", -1, 0, 50, (x, n) -> x.make(0, 0, 1, n, 50));
        changing("make: to", -1, 50, 599, (x, n) -> x.make(0, 0, 1, 50, n));
        changing("make: from, to the last HOUR", -1, 0, 599, (x, n) -> x.make(0, 0, 1, n, 599));
        changing("make: to, from HOUR 0", -1, 0, 599, (x, n) -> x.make(0, 0, 1, 0, n));
    }

    private static void trials() {
        asking("tried: star", -200000, 0, 2, (x, n) -> x.tried(n, 0, 10, 2, 3, 0));
        asking("tried: way", -200000, 0, 5, (x, n) -> x.tried(0, n, 10, 2, 3, 0));
        asking("tried: beat", -200000, 2, 200, (x, n) -> x.tried(0, 0, n, 1, 0, 0));
        asking("tried: long", -200000, 1, 10, (x, n) -> x.tried(0, 0, 200, n, 3, 0));
        asking("tried: long below beat 11", -200000, 1, 10, (x, n) -> x.tried(0, 0, 11, n, 3, 0));
        asking("tried: long below beat 10", -200000, 1, 9, (x, n) -> x.tried(0, 0, 10, n, 3, 0));
        asking("tried: long below beat 2", -200000, 1, 1, (x, n) -> x.tried(0, 0, 2, n, 0, 0));
        asking("tried: first below beat 10", -200000, 0, 9, (x, n) -> x.tried(0, 0, 10, 2, n, 0));
        asking("tried: first below beat 200", -200000, 0, 199, (x, n) -> x.tried(0, 0, 200, 2, n, 0));
        asking("tried: what", -200000, 0, 4, (x, n) -> x.tried(0, 0, 10, 2, 3, n));
        asking("spread", -1, 0, 2, (x, n) -> x.spread(n));
        asking("fold: star", -1000000000, 0, 2, (x, n) -> x.fold(n, 0, 10, 2, 0));
        asking("fold: way", -1000000000, 0, 5, (x, n) -> x.fold(0, n, 10, 2, 0));
        asking("fold: beat", -1000000000, 2, 200, (x, n) -> x.fold(0, 0, n, 0, 0));
        asking("fold: p below beat 2", -1000000000, 0, 1, (x, n) -> x.fold(0, 0, 2, n, 1));
        asking("fold: p below beat 200", -1000000000, 0, 199, (x, n) -> x.fold(0, 0, 200, n, 1));
        asking("fold: part", -1000000000, 0, 1, (x, n) -> x.fold(0, 0, 10, 2, n));
    }

    private static void findings() {
        asking("found: search", -2, 0, 1, (x, n) -> x.found(n, 0, 0, 0));
        asking("found: star", -2, 0, 2, (x, n) -> x.found(0, n, 0, 0));
        asking("found: way", -2, 0, 5, (x, n) -> x.found(0, 0, n, 0));
        asking("found: what", -2, 0, 6, (x, n) -> x.found(0, 0, 0, n));
        asking("found: what of nothing", -2, 0, 6, (x, n) -> x.found(0, 2, 0, n));
        asking("second: search", -2, 0, 1, (x, n) -> x.second(n, 0, 0));
        // STAR 2 is there, but nothing is FOUND first
        asking("second: star", -2, 0, 1, (x, n) -> x.second(0, n, 0));
        asking("second: what", -2, 0, 6, (x, n) -> x.second(0, 0, n));
        asking("next: search", -1, 0, 1, (x, n) -> x.next(n, 0, 0));
        asking("next: star", -1, 0, 2, (x, n) -> x.next(0, n, 0));
        asking("next: hour", -1, 0, 99999, (x, n) -> x.next(0, 0, n));
        asking("next: hour where nothing is FOUND", -1, 0, 99999, (x, n) -> x.next(0, 2, n));
        asking("alias: search", -1, 0, 1, (x, n) -> x.alias(n, 0, 0));
        asking("alias: star", -1, 0, 2, (x, n) -> x.alias(0, n, 0));
        asking("alias: what", -1, 0, 2, (x, n) -> x.alias(0, 0, n));
        asking("alias: what where nothing is FOUND", -1, 0, 2, (x, n) -> x.alias(0, 2, n));
        asking("radius: search", -1, 0, 1, (x, n) -> x.radius(n, 0));
        asking("radius: star", -1, 0, 2, (x, n) -> x.radius(0, n));
    }

    private static void catching() {
        asking("catches: search", -1, 0, 1, (x, n) -> x.catches(n, 1));
        // WORLDS 0 and 3 are real, 4 is none
        asking("catches: world", -1, 1, 2, (x, n) -> x.catches(0, n));
        refused("catches: no world", -1, x -> x.catches(0, 4));
        asking("share: search", -1, 0, 1, (x, n) -> x.share(n, 0));
        asking("share: part", -1, 0, 1, (x, n) -> x.share(0, n));
        asking("chance: search", -1, 0, 1, (x, n) -> x.chance(n, 0, 0));
        asking("chance: line", -1, 0, 999999, (x, n) -> x.chance(0, n, 1));
        asking("chance: way", -1, 0, 5, (x, n) -> x.chance(0, 0, n));
        asking("line: search", -1, 0, 1, (x, n) -> x.line(n, 1, 1, 1, 0));
        asking("line: step", -1, 1, 99999, (x, n) -> x.line(0, n, 1, 1, 0));
        asking("line: lost", -1, 0, 999, (x, n) -> x.line(0, 1, n, 1, 0));
        asking("line: kept", -1, 0, 999, (x, n) -> x.line(0, 1, 1, n, 0));
        asking("line: what", -1, 0, 1, (x, n) -> x.line(0, 1, 1, 1, n));
        asking("room: search", -1, 0, 1, (x, n) -> x.room(n, 0));
        asking("room: world", -1, 0, 3, (x, n) -> x.room(0, n));
    }

    private static void signs() {
        asking("sign: search", -200000, 0, 1, (x, n) -> x.sign(n, 0, 0));
        asking("sign: star", -200000, 0, 1, (x, n) -> x.sign(0, n, 0));
        asking("sign: what", -200000, 0, 5, (x, n) -> x.sign(0, 0, n));
        refused("sign: no star", -200000, x -> x.sign(0, 3, 0));
        asking("shift: search", -200, 0, 1, (x, n) -> x.shift(n, 0, 0));
        asking("shift: star", -200, 0, 1, (x, n) -> x.shift(0, n, 0));
        asking("shift: k", -200, -1, 300, (x, n) -> x.shift(0, 0, n));
        refused("shift: no star", -200, x -> x.shift(0, 3, 0));
        asking("other: search", -3, 0, 1, (x, n) -> x.other(n, 0, 0));
        asking("other: star", -3, 0, 2, (x, n) -> x.other(0, n, 0));
        asking("other: what", -3, 0, 1, (x, n) -> x.other(0, 0, n));
        asking("other: what where nothing is FOUND", -3, 0, 1, (x, n) -> x.other(0, 2, n));
    }

    private static void sorting() {
        asking("weight: sorter", -1, 0, 1, (x, n) -> x.weight(n, 0, 0, 0));
        asking("weight: search", -1, 0, 1, (x, n) -> x.weight(0, n, 0, 0));
        asking("weight: star", -1, 0, 1, (x, n) -> x.weight(0, 0, n, 0));
        asking("weight: sort", -1, 0, 4, (x, n) -> x.weight(0, 0, 0, n));
        refused("weight: no star", -1, x -> x.weight(0, 0, 3, 0));
        asking("sorted: sorter", -1, 0, 1, (x, n) -> x.sorted(n, 0, 0));
        asking("sorted: search", -1, 0, 1, (x, n) -> x.sorted(0, n, 0));
        asking("sorted: star", -1, 0, 1, (x, n) -> x.sorted(0, 0, n));
        refused("sorted: no star", -1, x -> x.sorted(0, 0, 3));
        asking("odds: sorter", -1, 0, 1, (x, n) -> x.odds(n, 0, 0, 0, 0));
        asking("odds: search", -1, 0, 1, (x, n) -> x.odds(0, n, 0, 0, 0));
        asking("odds: star", -1, 0, 1, (x, n) -> x.odds(0, 0, n, 0, 0));
        asking("odds: sort", -1, 0, 4, (x, n) -> x.odds(0, 0, 0, n, 0));
        asking("odds: part", -1, 0, 1, (x, n) -> x.odds(0, 0, 0, 0, n));
        refused("odds: no star", -1, x -> x.odds(0, 0, 3, 0, 0));
    }

    private static void counting() {
        asking("truly: search", -1, 0, 1, (x, n) -> x.truly(n, 0));
        asking("truly: sorter", -1, 0, 1, (x, n) -> x.truly(0, n));
        asking("bound: search", -1, 0, 1, (x, n) -> x.bound(n, 500));
        asking("bound: luck", -1, 1, 1000, (x, n) -> x.bound(0, n));
        asking("count", -1, 0, 7, (x, n) -> x.count(n));
        House.asks("finest", -1, x -> x.finest());
    }

    private static void more() {
        for (int what = 0; what < 2; what++) {
            int asked = what;
            asking("many: search", -1, 0, 1, (x, n) -> x.many(n, 0, 0, 9, asked));
            asking("many: sorter", -1, 0, 1, (x, n) -> x.many(0, n, 0, 9, asked));
            asking("many: from", -1, 0, 9, (x, n) -> x.many(0, 0, n, 9, asked));
            asking("many: to", -1, 9, MOST, (x, n) -> x.many(0, 0, 9, n, asked));
        }
        asking("many: what", -1, 0, 1, (x, n) -> x.many(0, 0, 0, 9, n));
        refused("many: from and to below 0", -1, x -> x.many(0, 0, -2, -1, 0));
        refused("many: from below 0", -1, x -> x.many(0, 0, -1, 999, 1));
    }

    private static void nights() {
        changing("candidate: star", -1, 0, 2, (x, n) -> x.candidate(n, 1, 1));
        changing("candidate: nights", -1, 1, 99, (x, n) -> x.candidate(0, n, 1));
        changing("candidate: worth", -1, 0, 9999, (x, n) -> x.candidate(0, 1, n));
        asking("nights: many", -1, 0, 9999, (x, n) -> x.nights(n, 0));
        asking("nights: what", -1, 0, 1, (x, n) -> x.nights(5, n));
    }

    private static void images() {
        changing("image", -1, 0, 3, (x, n) -> x.image(n));
        // IMAGE 1 alone was made
        changing("back", -1, 1, 1, (x, n) -> x.back(n));
        refused("back to one never made", -1, x -> x.back(3));
        refused("back to none", -1, x -> x.back(4));
    }
}
