import java.util.ArrayList;
import java.util.List;

/** Objects with something of everything in them, and what later calls show of such an object. */
final class House {
    /** A call with all its arguments. */
    interface Call {
        long on(DimStars x);
    }

    /** A call with one argument open. */
    interface OpenCall {
        long on(DimStars x, int n);
    }

    /** An object is promised for so many calls. */
    private static final int CALLS = 512;

    private static List<Long> shownOfSmall;
    private static List<Long> shownOfFull;

    private House() {
    }

    /**
     * STARS 0 and 1, in which both SEARCHES find something, and 2, in which they don't; WORLDS 1 and 2 are
     * PUT IN, of which 1 is CAUGHT; two texts of each sort; three CANDIDATES; IMAGE 1, which is not as it is
     * now; "line 7" on the TAPE.
     */
    static DimStars small() {
        DimStars x = new DimStars();
        x.star(100, 0, 500);
        x.star(200, 0, 100);
        x.star(300, 7, 1000);
        x.world(0, 10, 3, 2, 400, false);
        x.world(2, 7, 2, 1, 300, true);
        x.world(1, 300, 2, 1, 100, true);
        x.world(1, 12, 5, 3, 200, false);
        Check.law(x, "bright 1000");
        Check.law(x, "bright 1000+hour;noise 30");
        Check.search(x, "beat 2 20;long 1 3");
        Check.search(x, "beat 2 15;least 3;line 30");
        Check.sorter(x, "world deep;pair odd+3");
        Check.sorter(x, "world 2;spot 2;glass late+1");
        x.make(0, 0, 1, 0, 99);
        x.make(1, 1, 7, 0, 149);
        x.make(0, 2, 1, 0, 49);
        x.candidate(0, 5, 10);
        x.candidate(1, 4, 10);
        x.candidate(2, 9, 3);
        x.wide(7);
        x.mask(0, 1, 100);
        x.order(9);
        x.image(1);
        x.row(0, 3, 610);
        x.row(1, 599, -7);
        x.resize(1, 210);
        x.candidate(1, 1, 1);
        x.wide(9);
        x.mask(7, 1, 0);
        x.order(10);
        Check.tape(x, "line 7");
        return x;
    }

    /** As many of everything as there may be: STARS, WORLDS, texts, CANDIDATES, bytes of the TAPE. */
    static DimStars full() {
        DimStars x = new DimStars();
        for (int i = 0; i < 12; i++) {
            x.star(100 + i, i % 8, 100 + i);
        }
        for (int i = 0; i < 40; i++) {
            x.world(i % 12, 7 + i % 12, i % 7, 1, 300 + i, i >= 12);
        }
        for (int i = 0; i < 6; i++) {
            Check.law(x, "bright 100" + i);
            Check.search(x, "beat 5 20;line " + i);
            Check.sorter(x, "world 1;pair " + i);
        }
        for (int i = 0; i < 12; i++) {
            x.make(5, i, i, 0, 99);
            x.candidate(i, 1 + i, 10 + i);
        }
        x.image(1);
        for (int i = 0; i < 20; i++) {
            x.feed(0x6c696e65, 0x20372020, 0x20202020, 0x20202020, 0x20202020);
        }
        return x;
    }

    /** What later calls answer: first those that only ask, then those that change something. */
    private static List<Long> shownOf(DimStars x) {
        List<Long> shown = new ArrayList<>();
        for (int what = 0; what < 8; what++) {
            shown.add((long) x.count(what));
        }
        showRows(x, shown);
        showFindings(x, shown);
        showJudgements(x, shown);
        showByChanges(x, shown);
        return shown;
    }

    private static void showRows(DimStars x, List<Long> shown) {
        int[] hours = {0, 3, 5, 13, 25, 50, 149, 599};
        for (int star = 0; star < 3; star++) {
            for (int hour : hours) {
                shown.add((long) x.at(star, hour, 0));
                shown.add((long) x.at(star, hour, 3));
                shown.add((long) x.at(star, hour, 4));
            }
            shown.add((long) x.at(star, 300, 5));
            shown.add((long) x.at(star, 453, 2));
            shown.add(x.spread(star));
            shown.add(x.fold(star, 1, 7, 3, 1));
        }
        shown.add((long) x.at(3, 0, 0));
        shown.add((long) x.at(11, 0, 0));
    }

    private static void showFindings(DimStars x, List<Long> shown) {
        for (int search = 0; search < 2; search++) {
            for (int star = 0; star < 3; star++) {
                shown.add(x.found(search, star, 0, 2));
                shown.add(x.found(search, star, 1, 4));
                shown.add(x.found(search, star, 3, 4));
                shown.add(x.found(search, star, 4, 4));
                shown.add(x.second(search, star, 4));
            }
            shown.add((long) x.catches(search, 1));
            shown.add((long) x.catches(search, 2));
            shown.add((long) x.catches(search, 3));
            shown.add((long) x.room(search, 3));
            shown.add((long) x.share(search, 0));
        }
    }

    private static void showJudgements(DimStars x, List<Long> shown) {
        for (int star = 0; star < 2; star++) {
            shown.add((long) x.radius(0, star));
            shown.add((long) x.sorted(0, 0, star));
            shown.add((long) x.weight(1, 0, star, 3));
            shown.add((long) x.sign(0, star, 2));
            shown.add((long) x.other(0, star, 0));
        }
        shown.add(x.truly(0, 0));
        shown.add((long) x.bound(0, 900));
        shown.add((long) x.finest());
        shown.add((long) x.nights(9, 0));
        shown.add((long) x.nights(9999, 0));
        shown.add((long) x.many(0, 0, 0, 999, 1));
    }

    private static void showByChanges(DimStars x, List<Long> shown) {
        shown.add((long) x.wide(1));
        shown.add((long) x.order(1));
        shown.add((long) x.resize(0, 2));
        shown.add((long) x.resize(1, 3));
        shown.add((long) x.resize(2, 4));
        shown.add((long) x.row(0, 3, 1));
        shown.add((long) x.row(2, 13, 500));
        shown.add((long) x.at(2, 13, 4));
        shown.add((long) x.candidate(0, 1, 1));
        shown.add((long) x.world(0, 9, 1, 1, 1, false));
        shown.add((long) x.star(1, 1, 1));
        shown.add((long) x.make(0, 0, 5, 0, 20));
        shown.add((long) x.at(0, 3, 0));
        shown.add((long) x.make(1, 0, 5, 0, 20));
        shown.add((long) x.at(0, 3, 0));
        shown.add((long) x.text(1));
        shown.add((long) x.count(7));
        shown.add(x.found(2, 0, 0, 6));
        shown.add((long) x.back(0));
        shown.add((long) x.back(2));
        shown.add((long) x.back(3));
        shown.add((long) x.back(1));
        for (int what = 0; what < 8; what++) {
            shown.add((long) x.count(what));
        }
        shown.add((long) x.at(0, 3, 0));
        shown.add((long) x.at(0, 3, 4));
        shown.add((long) x.wide(1));
        shown.add((long) x.order(1));
        shown.add((long) x.resize(1, 3));
        shown.add((long) x.nights(9999, 0));
    }

    /** A call that is refused, with that answer, of which later calls show nothing. */
    static void refused(String name, boolean isFull, long answer, Call call) {
        DimStars x = isFull ? full() : small();
        Check.due(name, call.on(x), answer);
        Check.due(name + ": nothing happens", shownOf(x).equals(isFull ? ofFull() : ofSmall()), true);
    }

    /** A call that asks alone: later calls show nothing of it, and asked again it answers the same. */
    static void asks(String name, long refusal, Call call) {
        DimStars x = small();
        long answer = call.on(x);
        Check.due(name + " is taken", answer != refusal, true);
        Check.due(name + ": asking changes nothing", shownOf(x).equals(ofSmall()), true);
        DimStars y = small();
        for (int search = 0; search < 2; search++) {
            for (int star = 0; star < 3; star++) {
                y.found(search, star, 0, 0);
                y.found(search, star, 1, 0);
            }
        }
        y.at(2, 0, 1);
        Check.due(name + " behind other questions", call.on(y), answer);
        y.at(1, 0, 3);
        Check.due(name + " once more", call.on(y), answer);
    }

    static void taken(String name, boolean isFull, long refusal, Call call) {
        Check.due(name + " is taken", call.on(isFull ? full() : small()) != refusal, true);
    }

    /** What is shown is enough to see that something has happened. */
    static void seen(String name, Call call) {
        DimStars x = small();
        call.on(x);
        Check.due(name + " shows", shownOf(x).equals(ofSmall()), false);
    }

    private static List<Long> ofSmall() {
        if (shownOfSmall == null) {
            shownOfSmall = shownOf(small());
        }
        return shownOfSmall;
    }

    private static List<Long> ofFull() {
        if (shownOfFull == null) {
            shownOfFull = shownOf(full());
        }
        return shownOfFull;
    }

    /** The calls of a house and of what it shows stay below what an object is promised for. */
    static int spareCalls() {
        int texts = 18 * 4;
        int made = 12 + 40 + texts + 24 + 1 + 20;
        return CALLS - made - Math.max(ofSmall().size(), ofFull().size());
    }
}
