/** How many there may be of everything: the last one that is taken, the first one that is refused. */
public final class FullTest {
    private FullTest() {
    }

    public static void main(String[] args) {
        fullHouse();
        stars();
        worlds();
        candidates();
        texts();
        tape();
        tapeByOddLengths();
        images();
        textsStay();
        Check.end();
    }

    private static void fullHouse() {
        DimStars x = House.full();
        int[] due = {12, 40, 6, 6, 6, 12, 1200, 400};
        for (int what = 0; what < 8; what++) {
            Check.due("count " + what + " of a full house", x.count(what), due[what]);
        }
        House.refused("a thirteenth STAR", true, -1, y -> y.star(1, 1, 1));
        House.refused("a forty-first WORLD, real", true, -1, y -> y.world(0, 10, 0, 1, 1, false));
        House.refused("a forty-first WORLD, PUT IN", true, -1, y -> y.world(11, 10, 0, 1, 1, true));
        House.refused("a thirteenth CANDIDATE", true, -1, y -> y.candidate(0, 1, 1));
        for (int sort = 0; sort < 3; sort++) {
            int told = sort;
            House.refused("a seventh text of sort " + sort, true, -1, y -> y.text(told));
        }
        House.refused("bytes beyond 400", true, -1, y -> y.feed(0, 0, 0, 0, 0));
        House.refused("end beyond 400", true, -1, y -> y.end(401));
        numbersAtTheEnd();
    }

    /** The last STAR, WORLD and text are taken in each call that names one, the next one is refused. */
    private static void numbersAtTheEnd() {
        ends("row: star", -200000, 11, (x, n) -> x.row(n, 0, 1));
        ends("resize: star", -1, 11, (x, n) -> x.resize(n, 1));
        ends("at: star", -200000, 11, (x, n) -> x.at(n, 0, 4));
        ends("make: law", -1, 5, (x, n) -> x.make(n, 11, 1, 0, 1));
        ends("make: star", -1, 11, (x, n) -> x.make(5, n, 1, 0, 1));
        ends("tried: star", -200000, 11, (x, n) -> x.tried(n, 0, 9, 1, 0, 4));
        ends("found: search", -2, 5, (x, n) -> x.found(n, 11, 5, 4));
        ends("found: star", -2, 11, (x, n) -> x.found(5, n, 5, 4));
        ends("spread", -1, 11, (x, n) -> x.spread(n));
        ends("catches: search", -1, 5, (x, n) -> x.catches(n, 39));
        ends("catches: world", -1, 39, (x, n) -> x.catches(5, n));
        ends("share: search", -1, 5, (x, n) -> x.share(n, 1));
        ends("chance: search", -1, 5, (x, n) -> x.chance(n, 0, 0));
        ends("line: search", -1, 5, (x, n) -> x.line(n, 1, 1, 1, 1));
        ends("sign: search", -200000, 5, (x, n) -> x.sign(n, 11, 4));
        ends("sign: star", -200000, 11, (x, n) -> x.sign(5, n, 4));
        ends("shift: star", -200, 11, (x, n) -> x.shift(5, n, 0));
        ends("weight: sorter", -1, 5, (x, n) -> x.weight(n, 5, 11, 0));
        ends("weight: star", -1, 11, (x, n) -> x.weight(5, 5, n, 0));
        ends("sorted: sorter", -1, 5, (x, n) -> x.sorted(n, 5, 11));
        ends("odds: sorter", -1, 5, (x, n) -> x.odds(n, 5, 11, 0, 0));
        ends("truly: search", -1, 5, (x, n) -> x.truly(n, 5));
        ends("truly: sorter", -1, 5, (x, n) -> x.truly(5, n));
        ends("bound: search", -1, 5, (x, n) -> x.bound(n, 1000));
        ends("second: star", -2, 11, (x, n) -> x.second(5, n, 6));
        ends("next: star", -1, 11, (x, n) -> x.next(5, n, 9));
        ends("alias: star", -1, 11, (x, n) -> x.alias(5, n, 0));
        ends("radius: star", -1, 11, (x, n) -> x.radius(5, n));
        ends("many: sorter", -1, 5, (x, n) -> x.many(5, n, 0, 99, 0));
        ends("room: world", -1, 39, (x, n) -> x.room(5, n));
        ends("other: star", -3, 11, (x, n) -> x.other(5, n, 1));
        ends("fold: star", -1000000000, 11, (x, n) -> x.fold(n, 0, 2, 1, 1));
    }

    private static void ends(String name, long refusal, int last, House.OpenCall call) {
        House.taken(name + " " + last, true, refusal, x -> call.on(x, last));
        House.refused(name + " " + (last + 1), true, refusal, x -> call.on(x, last + 1));
    }

    private static void stars() {
        DimStars x = new DimStars();
        for (int i = 0; i < 12; i++) {
            Check.due("STARS", x.count(0), i);
            Check.due("no STAR " + i + " yet", x.at(i, 0, 0), -200000);
            Check.due("STAR " + i, x.star(i + 1, i % 8, 1000), i);
            Check.due("its ROW has nothing at first", x.at(i, 0, 0), -100000);
            Check.due("nor at the last HOUR", x.at(i, 599, 0), -100000);
        }
        Check.due("a thirteenth STAR", x.star(1, 1, 1), -1);
        Check.due("a thirteenth STAR, wrong", x.star(0, 1, 1), -1);
        Check.due("STARS", x.count(0), 12);
        Check.due("no STAR 12", x.row(12, 0, 1), -200000);
        Check.due("STAR 11 is as it was", x.resize(11, 5), 12);
    }

    private static void worlds() {
        DimStars x = new DimStars();
        x.star(1, 0, 1);
        Check.search(x, "least 2");
        for (int i = 0; i < 40; i++) {
            Check.due("no WORLD " + i + " yet", x.room(0, i), -1);
            Check.due("WORLD " + i, x.world(0, 10 + i, 0, 1, 1, i % 2 == 0), i);
            Check.due("its beat", x.room(0, i), 11 + i);
        }
        Check.due("a forty-first one", x.world(0, 500, 0, 1, 1, false), -1);
        Check.due("WORLDS", x.count(1), 40);
        Check.due("the last one is as it was", x.room(0, 39), 50);
        Check.due("all PUT IN", x.share(0, 1), 1);
        Check.due("none CAUGHT", x.share(0, 0), 0);
    }

    private static void candidates() {
        DimStars x = new DimStars();
        x.star(1, 0, 1);
        for (int i = 0; i < 12; i++) {
            Check.due("CANDIDATE " + i, x.candidate(0, 99, 9999), i);
            Check.due("all together", x.nights(9999, 0), (1 << i + 1) - 1);
            Check.due("their worth", x.nights(9999, 1), 9999 * (i + 1));
        }
        Check.due("a thirteenth one", x.candidate(0, 1, 9999), -1);
        Check.due("CANDIDATES", x.count(5), 12);
        // 12 * 99 nights are enough, one less is not: of several the least number
        Check.due("enough for all", x.nights(1188, 0), 4095);
        Check.due("one night too few", x.nights(1187, 0), 2047);
        Check.due("worth of eleven", x.nights(1187, 1), 11 * 9999);
        Check.due("enough for one", x.nights(99, 0), 1);
        Check.due("too few for one", x.nights(98, 0), 0);
    }

    private static void texts() {
        String[] fine = {"bright 1", "line 1", "world 1"};
        for (int sort = 0; sort < 3; sort++) {
            DimStars x = new DimStars();
            for (int i = 0; i < 6; i++) {
                Check.due("a FAULT takes no number", Check.text(x, sort, "no"), -3);
                Check.due("texts of sort " + sort, x.count(2 + sort), i);
                Check.due("text " + i + " of sort " + sort, Check.text(x, sort, fine[sort]), i);
            }
            Check.due("a seventh one", Check.text(x, sort, fine[sort]), -1);
            Check.due("the TAPE stays", x.count(7), fine[sort].length());
            x.end(0);
            Check.due("a seventh one with a FAULT", Check.text(x, sort, "no"), -1);
            Check.due("an empty seventh one", x.end(0) + x.text(sort), -1);
            Check.due("of the others there is none", x.count(2 + (sort + 1) % 3) + x.count(2 + (sort + 2) % 3), 0);
            Check.tape(x, fine[(sort + 1) % 3]);
            Check.due("another sort has six of its own", x.text((sort + 1) % 3), 0);
        }
    }

    /** A TAPE of n bytes that ends with so many of another byte than the text before. */
    private static void tape() {
        DimStars x = new DimStars();
        Check.due("no bytes at first", x.count(7), 0);
        Check.due("end(0) of an empty one", x.end(0), 0);
        Check.due("end(1) of an empty one", x.end(1), -1);
        Check.due("end below 0", x.end(-1), -1);
        for (int i = 1; i <= 20; i++) {
            Check.due("feed " + i, x.feed(0x20202020, 0x20202020, 0x20202020, 0x20202020, 0x20202020), 20 * i);
        }
        Check.due("420 would be too many", x.feed(0x21212121, 0x21212121, 0x21212121, 0x21212121, 0x21212121), -1);
        Check.due("end(401)", x.end(401), -1);
        Check.due("end(400)", x.end(400), 400);
        // blanks alone: the end can't stand there
        Check.due("400 blanks", x.text(0), -2 - (1 + 8 * 400));
        Check.due("the TAPE is empty then", x.count(7), 0);
        Check.due("nothing is left of it", x.text(0), -2 - 1);
    }

    private static void tapeByOddLengths() {
        DimStars x = new DimStars();
        for (int i = 0; i < 20; i++) {
            x.feed(-1, -1, -1, -1, -1);
        }
        Check.due("end(381)", x.end(381), 381);
        Check.due("401 would be too many", x.feed(0, 0, 0, 0, 0), -1);
        Check.due("none comes", x.count(7), 381);
        Check.due("end(380)", x.end(380), 380);
        Check.due("400 are not too many", x.feed(0, 0, 0, 0, 0), 400);
        Check.due("end(379)", x.end(379), 379);
        Check.due("399 are not", x.feed(0, 0, 0, 0, 0), 399);
        Check.due("end(400) of 399", x.end(400), -1);
        Check.due("nothing happens", x.count(7), 399);
        Check.due("end(399)", x.end(399), 399);
        // what was cut off does not come back: "world 1" behind one byte of "line 7"
        DimStars y = new DimStars();
        y.feed(0x6c696e65, 0x20372020, 0x20202020, 0x20202020, 0x20202020);
        y.end(0);
        y.feed(0x776f726c, 0x64203132, 0x33343536, 0x37383930, 0x31323334);
        Check.due("end(7)", y.end(7), 7);
        Check.due("world 1", y.text(2), 0);
        // the highest byte of each number comes first, the first number first
        y.feed(0x6c696e65, 0x20313233, 0x34352020, 0x20202020, 0x20202021);
        Check.due("a byte that can't stand there is the twentieth", y.text(1), -2 - (1 + 8 * 19));
        y.feed(0x6c696e65, 0x20313233, 0x34352020, 0x20202020, 0x20202021);
        y.end(19);
        Check.due("without it", y.text(1), 0);
    }

    private static void images() {
        DimStars x = new DimStars();
        for (int k = 0; k < 4; k++) {
            Check.due("IMAGE " + k + " was never made", x.back(k), -1);
            Check.due("IMAGE " + k, x.image(k), k);
            Check.due("one more STAR", x.star(1 + k, 0, 1), k);
        }
        Check.due("no IMAGE 4", x.image(4), -1);
        Check.due("nor back to it", x.back(4), -1);
        Check.due("STARS", x.count(0), 4);
        for (int k = 3; k >= 0; k--) {
            Check.due("back to " + k, x.back(k), k);
            Check.due("its STARS", x.count(0), k);
            Check.due("the next one is gone", x.resize(k, 1), -1);
        }
        Check.due("back to a later one", x.back(3), 3);
        Check.due("its last STAR", x.resize(2, 1), 3);
        fullImages();
    }

    /** What was full is free again in an IMAGE with less. */
    private static void fullImages() {
        DimStars x = new DimStars();
        x.star(1, 0, 1);
        x.image(2);
        for (int i = 0; i < 12; i++) {
            x.star(2, 0, 1);
            x.candidate(0, 1, 1);
            x.feed(0, 0, 0, 0, 0);
        }
        for (int i = 0; i < 40; i++) {
            x.world(0, 10, 0, 1, 1, false);
        }
        Check.due("full", x.star(1, 0, 1), -1);
        x.image(3);
        Check.due("back", x.back(2), 1);
        Check.due("a STAR", x.star(1, 0, 1), 1);
        Check.due("a CANDIDATE", x.candidate(1, 1, 1), 0);
        Check.due("a WORLD", x.world(1, 10, 0, 1, 1, false), 0);
        Check.due("bytes", x.feed(0, 0, 0, 0, 0), 20);
        Check.due("forth", x.back(3), 12);
        Check.due("full again", x.star(1, 0, 1), -1);
        Check.due("WORLDS too", x.world(0, 10, 0, 1, 1, false), -1);
        Check.due("CANDIDATES too", x.candidate(0, 1, 1), -1);
        Check.due("texts are none", x.count(2) + x.count(3) + x.count(4), 0);
    }

    /** Texts stay when all else goes back; a number of the texts is not given twice. */
    private static void textsStay() {
        DimStars x = new DimStars();
        x.image(0);
        for (int i = 0; i < 6; i++) {
            Check.due("law " + i, Check.law(x, "bright " + i), i);
            Check.due("back", x.back(0), 0);
        }
        Check.due("six are there", x.count(2), 6);
        Check.due("a seventh one", Check.law(x, "bright 7"), -1);
    }
}
