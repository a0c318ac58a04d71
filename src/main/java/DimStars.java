import java.util.Arrays;

/** Stars looked at hour by hour, of which some grow dimmer now and then. */
public final class DimStars {
    public static final int NONE = -1;

    private static final int NOTHING = -100000;
    private static final int WRONG = -200000;
    private static final int WRONG_FOLD = -1000000000;
    private static final int NOT_FOUND = -2;
    private static final int NO_SHIFT = -100;
    private static final int WRONG_SHIFT = -200;
    private static final int WRONG_OTHER = -3;

    private static final int HOURS = 600;
    private static final int SEASON = 150;
    private static final int SEASONS = 4;
    private static final int STARS = 12;
    private static final int CELLS = 8;
    private static final int WORLDS = 40;
    private static final int CANDIDATES = 12;
    private static final int IMAGES = 4;
    private static final int ORDERS = 24;
    private static final int TEXTS = 6;
    private static final int CLAUSES = 12;
    private static final int SORTS = 5;
    private static final int TAPE = 400;
    private static final int FED = 20;
    private static final int FARTHEST = 30000;
    private static final int BRIGHTEST = 20000;
    private static final int LONGEST_BEAT = 200;
    private static final int LONGEST_LONG = 10;
    private static final int HEAVIEST = 99999;
    private static final int LAST_DIP = 300;
    private static final int LINES = 21;
    private static final int LONGEST_ROUND = 20;

    private static final int WAYS = 6;
    private static final int AS_IT_IS = 0;
    private static final int UPSIDE_DOWN = 1;
    private static final int TURNED_ROUND = 2;
    private static final int CLEAN = 3;
    private static final int UNMASKED = 4;
    private static final int ORDERED = 5;

    private static final int LAW = 0;
    private static final int SEARCH = 1;
    private static final int SORTER = 2;

    private static final String LAW_CLAUSES = "bright noise";
    private static final String SEARCH_CLAUSES = "beat long least line";
    private static final String SORTER_CLAUSES = "world pair spot glass chance";
    private static final String LAW_WORDS = "hour season star cell size";
    private static final String SORTER_WORDS = "beat long deep score dips odd shape same late size";
    private static final int WORDS = 10;

    /** Code of a text: below WORD_CODE a number, below SIGN_CODE a word, else a sign. */
    private static final int WORD_CODE = 100000;
    private static final int SIGN_CODE = 200000;

    /** Kinds of a token beyond the 256 bytes that stand for themselves. */
    private static final int END = 256;
    private static final int NUMBER = 257;
    private static final int WORD = 258;
    private static final int AT_MOST = 259;
    private static final int AT_LEAST = 260;
    private static final int NOT = 261;
    private static final int AND = 262;
    private static final int OR = 263;

    /** All orders of 0 to 3, four places each, by their numbers one by one. */
    private static final int[] SEASON_ORDERS = {
        0, 1, 2, 3, 0, 1, 3, 2, 0, 2, 1, 3, 0, 2, 3, 1, 0, 3, 1, 2, 0, 3, 2, 1,
        1, 0, 2, 3, 1, 0, 3, 2, 1, 2, 0, 3, 1, 2, 3, 0, 1, 3, 0, 2, 1, 3, 2, 0,
        2, 0, 1, 3, 2, 0, 3, 1, 2, 1, 0, 3, 2, 1, 3, 0, 2, 3, 0, 1, 2, 3, 1, 0,
        3, 0, 1, 2, 3, 0, 2, 1, 3, 1, 0, 2, 3, 1, 2, 0, 3, 2, 0, 1, 3, 2, 1, 0};

    /** Nearest to 0 first, then that below it: the first least one is the one that counts. */
    private static final int[] SHIFTS = {0, -1, 1, -2, 2, -3, 3};

    private final Sky sky = new Sky();
    private final Sky[] images = new Sky[IMAGES];
    private final Text[] laws = new Text[TEXTS];
    private final Text[] searches = new Text[TEXTS];
    private final Text[] sorters = new Text[TEXTS];
    private int lawCount;
    private int searchCount;
    private int sorterCount;
    private final Parser parser = new Parser();
    private final Reckoner reckoner = new Reckoner();
    private final Look look = new Look();
    private final Finder finder = new Finder();
    private final Signs signs = new Signs();
    private final Finding nothing = new Finding();
    private final Finding secondFound = new Finding();
    private final Finding[] ofStars = new Finding[TEXTS * STARS * WAYS];
    private final Finding[] ofWorlds = new Finding[TEXTS * WORLDS];
    /** Findings rest on ROWS, WIDE, masks and ORDER: what changes these makes all older ones stale. */
    private int age = 1;
    private final long[] words = new long[WORDS];
    private final int[] weights = new int[SORTS];

    public DimStars() {
    }

    public int star(int size, int cell, int luck) {
        if (!isSize(size) || !isWithin(cell, 0, CELLS - 1) || !isWithin(luck, 1, 1000)) {
            return NONE;
        }
        return sky.addStar(size, cell, luck);
    }

    public int row(int star, int hour, int n) {
        Star told = sky.starAt(star);
        boolean isNumber = n == NOTHING || isWithin(n, -FARTHEST, FARTHEST);
        if (told == null || !isHour(hour) || !isNumber) {
            return WRONG;
        }
        int before = told.row[hour];
        told.row[hour] = n;
        age++;
        return before;
    }

    public int resize(int star, int n) {
        Star told = sky.starAt(star);
        if (told == null || !isSize(n)) {
            return NONE;
        }
        int before = told.size;
        told.size = n;
        return before;
    }

    public int wide(int n) {
        if (!isWithin(n, 0, 50)) {
            return NONE;
        }
        int before = sky.wide;
        sky.wide = n;
        age++;
        return before;
    }

    public boolean mask(int cell, int stars, int below) {
        if (!isWithin(cell, 0, CELLS - 1) || !isWithin(stars, 0, STARS) || !isWithin(below, 0, FARTHEST)) {
            return false;
        }
        sky.maskStars[cell] = stars;
        sky.maskBelow[cell] = below;
        age++;
        return true;
    }

    public int order(int n) {
        if (!isWithin(n, 0, ORDERS - 1)) {
            return NONE;
        }
        int before = sky.order;
        sky.order = n;
        age++;
        return before;
    }

    public int at(int star, int hour, int way) {
        if (!isStar(star) || !isHour(hour) || !isWay(way)) {
            return WRONG;
        }
        look.see(sky, star, way);
        return look.at[hour];
    }

    public int world(int star, int beat, int first, int longs, int deep, boolean isPut) {
        boolean isBeatTold = isWithin(beat, 2, HOURS - 1) && isHour(first);
        boolean isDipTold = isWithin(longs, 1, 30) && longs < beat && isWithin(deep, 1, FARTHEST);
        if (!isStar(star) || !isBeatTold || !isDipTold || sky.worldCount >= WORLDS) {
            return NONE;
        }
        sky.worlds[sky.worldCount] = new World(star, beat, first, longs, deep, isPut);
        sky.worldCount++;
        return sky.worldCount - 1;
    }

    public int feed(int a, int b, int c, int d, int e) {
        if (sky.tapeLength + FED > TAPE) {
            return NONE;
        }
        sky.addBytes(a);
        sky.addBytes(b);
        sky.addBytes(c);
        sky.addBytes(d);
        sky.addBytes(e);
        return sky.tapeLength;
    }

    public int end(int n) {
        if (!isWithin(n, 0, sky.tapeLength)) {
            return NONE;
        }
        sky.tapeLength = n;
        return n;
    }

    public int text(int sort) {
        int known = sort == LAW ? lawCount : sort == SEARCH ? searchCount : sorterCount;
        if (!isWithin(sort, LAW, SORTER) || known >= TEXTS) {
            return NONE;
        }
        int fault = parser.read(sky.tape, sky.tapeLength, sort);
        sky.tapeLength = 0;
        if (fault != 0) {
            return -2 - fault;
        }
        keepText(sort, known, parser.handOver());
        return known;
    }

    private void keepText(int sort, int number, Text text) {
        if (!isWithin(number, 0, TEXTS - 1)) {
            return;
        }
        if (sort == LAW) {
            laws[number] = text;
            lawCount++;
        } else if (sort == SEARCH) {
            searches[number] = text;
            searchCount++;
        } else {
            sorters[number] = text;
            sorterCount++;
        }
    }

    public int make(int law, int star, int seed, int from, int to) {
        Text told = lawAt(law);
        Star made = sky.starAt(star);
        if (told == null || made == null || seed < 0 || !isHour(from) || !isHour(to) || from > to) {
            return NONE;
        }
        long x = seed;
        words[2] = star;
        words[3] = made.cell;
        words[4] = made.size;
        for (int hour = from; hour <= to; hour++) {
            words[0] = hour;
            words[1] = hour / SEASON;
            long bright = held(reckoner.brightness(told, words), -BRIGHTEST, BRIGHTEST);
            x = (x * 1103515245L + 12345L) % 2147483648L;
            long draw = x / 65536 % (2L * told.noise + 1) - told.noise;
            made.row[hour] = (int) held(bright - sky.dimming(star, hour) + draw, -FARTHEST, FARTHEST);
        }
        age++;
        return to - from + 1;
    }

    public long tried(int star, int way, int beat, int longs, int first, int what) {
        boolean isTried = isBeat(beat) && isWithin(longs, 1, LONGEST_LONG) && longs < beat
            && isWithin(first, 0, beat - 1);
        if (!isStar(star) || !isWay(way) || !isTried || !isWithin(what, 0, 4)) {
            return WRONG;
        }
        look.see(sky, star, way);
        look.tally(beat, longs, first);
        switch (what) {
            case 0:
                return look.in;
            case 1:
                return look.many - look.in;
            case 2:
                return look.deep();
            case 3:
                return look.dips(beat, longs, first);
            default:
                return look.score();
        }
    }

    public long found(int search, int star, int way, int what) {
        Text told = searchAt(search);
        if (told == null || !isStar(star) || !isWay(way) || !isWithin(what, 0, 6)) {
            return -2;
        }
        return findingOf(search, star, way).part(what, told.line);
    }

    public long spread(int star) {
        if (!isStar(star)) {
            return NONE;
        }
        look.see(sky, star, AS_IT_IS);
        return look.many == 0 ? NONE : look.spread;
    }

    public int catches(int search, int world) {
        Text told = searchAt(search);
        World put = sky.worldAt(world);
        if (told == null || put == null || !put.isPut) {
            return NONE;
        }
        return findingWith(search, world).isSeenWith(put.beat, told.line) ? 1 : 0;
    }

    public int share(int search, int part) {
        Text told = searchAt(search);
        if (told == null || !isWithin(part, 0, 1)) {
            return NONE;
        }
        return partOf(caughtFrom(search, told.line), sky.putIn(), part);
    }

    public int chance(int search, int line, int way) {
        if (searchAt(search) == null || !isWithin(line, 0, 999999) || !isWay(way)) {
            return NONE;
        }
        return foundFrom(search, way, line);
    }

    public int line(int search, int step, int lost, int kept, int what) {
        boolean isWeighed = isWithin(lost, 0, 999) && isWithin(kept, 0, 999);
        if (searchAt(search) == null || !isWithin(step, 1, 99999) || !isWeighed || !isWithin(what, 0, 1)) {
            return NONE;
        }
        int all = sky.putIn();
        int best = 0;
        int least = 0;
        for (int i = 0; i < LINES; i++) {
            int lostOnes = all - caughtFrom(search, i * step);
            int together = lostOnes * lost + foundFrom(search, UPSIDE_DOWN, i * step) * kept;
            if (i == 0 || together < least) {
                best = i * step;
                least = together;
            }
        }
        return what == 0 ? best : least;
    }

    public int sign(int search, int star, int what) {
        if (searchAt(search) == null || !isStar(star) || !isWithin(what, 0, 5)) {
            return WRONG;
        }
        Finding found = findingOf(search, star, AS_IT_IS);
        if (found.isNone()) {
            return WRONG;
        }
        if (what == 4) {
            findAll(search, AS_IT_IS);
            return sameAs(search, star, found);
        }
        look.see(sky, star, AS_IT_IS);
        signs.read(look, found);
        return signs.part(what);
    }

    public int shift(int search, int star, int k) {
        if (searchAt(search) == null || !isStar(star) || !isWithin(k, -1, LAST_DIP)) {
            return WRONG_SHIFT;
        }
        Finding found = findingOf(search, star, AS_IT_IS);
        if (found.isNone()) {
            return WRONG_SHIFT;
        }
        look.see(sky, star, AS_IT_IS);
        return look.shiftOf(found.first + k * found.beat, found.longs);
    }

    public int weight(int sorter, int search, int star, int sort) {
        if (!isWithin(sort, 0, SORTS - 1) || !isWeighed(sorter, search, star)) {
            return NONE;
        }
        return weights[sort];
    }

    public int sorted(int sorter, int search, int star) {
        if (!isWeighed(sorter, search, star)) {
            return NONE;
        }
        return heaviest();
    }

    public int odds(int sorter, int search, int star, int sort, int part) {
        boolean isAsked = isWithin(sort, 0, SORTS - 1) && isWithin(part, 0, 1);
        if (!isAsked || !isWeighed(sorter, search, star)) {
            return NONE;
        }
        int together = 0;
        for (int i = 0; i < SORTS; i++) {
            together += weights[i];
        }
        return partOf(weights[sort], together, part);
    }

    public long truly(int search, int sorter) {
        Text told = searchAt(search);
        if (told == null || sorterAt(sorter) == null) {
            return NONE;
        }
        long caught = caughtFrom(search, told.line);
        long all = sky.putIn();
        if (caught == 0) {
            return -2;
        }
        findAll(search, AS_IT_IS);
        long together = 0;
        for (int star = 0; star < sky.starCount; star++) {
            long divisor = sky.luckOf(star) * caught;
            if (divisor > 0 && isSeenWorld(search, sorter, star)) {
                together += 1000000L * all / divisor;
            }
        }
        return together;
    }

    public int bound(int search, int luck) {
        Text told = searchAt(search);
        if (told == null || !isWithin(luck, 1, 1000)) {
            return NONE;
        }
        int all = sky.putIn();
        long p = all == 0 ? 0 : (long) luck * caughtFrom(search, told.line) / all;
        if (p == 0) {
            return -2;
        }
        long v = 1000000;
        int often = 0;
        // p is 1 at least, so that some 3000 times are enough
        while (20 * v >= 1000000 && often < 1000000) {
            v = v * (1000 - p) / 1000;
            often++;
        }
        return often;
    }

    public long second(int search, int star, int what) {
        Text told = searchAt(search);
        if (told == null || !isStar(star) || !isWithin(what, 0, 6)) {
            return -2;
        }
        Finding found = findingOf(search, star, AS_IT_IS);
        if (found.isNone()) {
            return -2;
        }
        look.see(sky, star, AS_IT_IS);
        look.dropDips(found.beat, found.longs, found.first);
        finder.find(look, told, secondFound);
        return secondFound.part(what, told.line);
    }

    public int next(int search, int star, int hour) {
        if (searchAt(search) == null || !isStar(star) || !isWithin(hour, 0, 99999)) {
            return NONE;
        }
        Finding found = findingOf(search, star, AS_IT_IS);
        if (found.isNone()) {
            return NOT_FOUND;
        }
        if (hour <= found.first) {
            return found.first;
        }
        int whole = (hour - found.first + found.beat - 1) / found.beat;
        return found.first + whole * found.beat;
    }

    public long alias(int search, int star, int what) {
        if (searchAt(search) == null || !isStar(star) || !isWithin(what, 0, 2)) {
            return NONE;
        }
        Finding found = findingOf(search, star, AS_IT_IS);
        if (found.isNone()) {
            return NOT_FOUND;
        }
        look.see(sky, star, AS_IT_IS);
        long twice = look.scoreTwice(found);
        long half = look.scoreHalf(found);
        if (what != 0) {
            return what == 1 ? twice : half;
        }
        if (found.score >= twice && found.score >= half) {
            return 0;
        }
        return twice >= half ? 1 : 2;
    }

    public int radius(int search, int star) {
        if (searchAt(search) == null || !isStar(star)) {
            return NONE;
        }
        Finding found = findingOf(search, star, AS_IT_IS);
        return found.isNone() ? NOT_FOUND : radiusOf(found, star);
    }

    public int many(int search, int sorter, int from, int to, int what) {
        Text told = searchAt(search);
        boolean isAsked = from >= 0 && from <= to && isWithin(what, 0, 1);
        if (told == null || sorterAt(sorter) == null || !isAsked) {
            return NONE;
        }
        int way = what == 0 ? AS_IT_IS : UPSIDE_DOWN;
        findAll(search, way);
        int many = 0;
        for (int star = 0; star < sky.starCount; star++) {
            Finding found = knownOf(search, star, way);
            if (found.isSeen(told.line) && isWithin(radiusOf(found, star), from, to)
                && (what == 1 || isSeenWorld(search, sorter, star))) {
                many++;
            }
        }
        return many;
    }

    public int finest() {
        int best = NONE;
        int most = 0;
        int fewest = 0;
        for (int search = 0; search < searchCount; search++) {
            Text told = searchAt(search);
            int line = told == null ? 0 : told.line;
            int caught = caughtFrom(search, line);
            int kept = foundFrom(search, UPSIDE_DOWN, line);
            if (best == NONE || caught > most || caught == most && kept < fewest) {
                best = search;
                most = caught;
                fewest = kept;
            }
        }
        return best;
    }

    public int room(int search, int world) {
        Text told = searchAt(search);
        World asked = sky.worldAt(world);
        if (told == null || asked == null) {
            return NONE;
        }
        return asked.first + (told.least - 1) * asked.beat + 1;
    }

    public int other(int search, int star, int what) {
        if (searchAt(search) == null || !isStar(star) || !isWithin(what, 0, 1)) {
            return WRONG_OTHER;
        }
        Finding found = findingOf(search, star, AS_IT_IS);
        if (found.isNone()) {
            return NOT_FOUND;
        }
        look.see(sky, star, AS_IT_IS);
        signs.readShifts(look, found);
        return what == 0 ? signs.shifted() : signs.round();
    }

    public long fold(int star, int way, int beat, int p, int part) {
        boolean isRest = isBeat(beat) && isWithin(p, 0, beat - 1);
        if (!isStar(star) || !isWay(way) || !isRest || !isWithin(part, 0, 1)) {
            return WRONG_FOLD;
        }
        look.see(sky, star, way);
        look.tally(beat, 1, p);
        return part == 0 ? look.in : look.inTotal;
    }

    public int candidate(int star, int nights, int worth) {
        boolean isTold = isStar(star) && isWithin(nights, 1, 99) && isWithin(worth, 0, 9999);
        if (!isTold || sky.candidateCount >= CANDIDATES) {
            return NONE;
        }
        sky.nights[sky.candidateCount] = nights;
        sky.worths[sky.candidateCount] = worth;
        sky.candidateCount++;
        return sky.candidateCount - 1;
    }

    public int nights(int many, int what) {
        if (!isWithin(many, 0, 9999) || !isWithin(what, 0, 1)) {
            return NONE;
        }
        int best = 0;
        int mostWorth = 0;
        int fewestNights = 0;
        int nights = 0;
        int worth = 0;
        for (int set = 1; set < 1 << sky.candidateCount; set++) {
            nights += sky.stepUp(sky.nights, set);
            worth += sky.stepUp(sky.worths, set);
            boolean isBetter = worth > mostWorth || worth == mostWorth && nights < fewestNights;
            if (nights <= many && isBetter) {
                best = set;
                mostWorth = worth;
                fewestNights = nights;
            }
        }
        return what == 0 ? best : mostWorth;
    }

    public int count(int what) {
        switch (what) {
            case 0:
                return sky.starCount;
            case 1:
                return sky.worldCount;
            case 2:
                return lawCount;
            case 3:
                return searchCount;
            case 4:
                return sorterCount;
            case 5:
                return sky.candidateCount;
            case 6:
                return sky.numbers();
            case 7:
                return sky.tapeLength;
            default:
                return NONE;
        }
    }

    public int image(int k) {
        if (!isWithin(k, 0, IMAGES - 1)) {
            return NONE;
        }
        Sky image = images[k];
        if (image == null) {
            image = new Sky();
            images[k] = image;
        }
        image.become(sky);
        return sky.starCount;
    }

    public int back(int k) {
        Sky image = isWithin(k, 0, IMAGES - 1) ? images[k] : null;
        if (image == null) {
            return NONE;
        }
        sky.become(image);
        age++;
        return sky.starCount;
    }

    private static boolean isWithin(int n, int least, int most) {
        return n >= least && n <= most;
    }

    private static boolean isHour(int hour) {
        return isWithin(hour, 0, HOURS - 1);
    }

    private static boolean isSize(int size) {
        return isWithin(size, 1, 999);
    }

    private static boolean isWay(int way) {
        return isWithin(way, 0, WAYS - 1);
    }

    private static boolean isBeat(int beat) {
        return isWithin(beat, 2, LONGEST_BEAT);
    }

    private static long held(long n, long least, long most) {
        return Math.max(least, Math.min(most, n));
    }

    private boolean isStar(int star) {
        return sky.starAt(star) != null;
    }

    private Text lawAt(int law) {
        return isWithin(law, 0, lawCount - 1) && law < TEXTS ? laws[law] : null;
    }

    private Text searchAt(int search) {
        return isWithin(search, 0, searchCount - 1) && search < TEXTS ? searches[search] : null;
    }

    private Text sorterAt(int sorter) {
        return isWithin(sorter, 0, sorterCount - 1) && sorter < TEXTS ? sorters[sorter] : null;
    }

    /** One part of a fraction in lowest terms; both are 0 where there is nothing below the line. */
    private static int partOf(int above, int below, int part) {
        int divisor = below;
        int rest = above;
        // Euclid's steps on whole numbers of 32 bits are fewer than 50
        for (int i = 0; i < 100 && rest != 0; i++) {
            int left = divisor % rest;
            divisor = rest;
            rest = left;
        }
        if (below == 0 || divisor == 0) {
            return 0;
        }
        return part == 0 ? above / divisor : below / divisor;
    }

    /** FOUND in the ROW of a STAR by a WAY: as it was found last if nothing has changed since. */
    private Finding findingOf(int search, int star, int way) {
        Text told = searchAt(search);
        int place = placeOf(search, star, way);
        if (told == null || place == NONE) {
            return nothing;
        }
        Finding found = keptAt(ofStars, place);
        if (found.age != age) {
            look.see(sky, star, way);
            finder.find(look, told, found);
            found.age = age;
        }
        return found;
    }

    private void findAll(int search, int way) {
        for (int star = 0; star < sky.starCount; star++) {
            findingOf(search, star, way);
        }
    }

    /** What findingOf or findAll, which go before it, have found of a STAR. */
    private Finding knownOf(int search, int star, int way) {
        int place = placeOf(search, star, way);
        Finding found = place == NONE ? null : ofStars[place];
        return found == null ? nothing : found;
    }

    private static int placeOf(int search, int star, int way) {
        int place = (search * STARS + star) * WAYS + way;
        return place < 0 || place >= TEXTS * STARS * WAYS ? NONE : place;
    }

    private static Finding keptAt(Finding[] kept, int place) {
        Finding found = kept[place];
        if (found == null) {
            found = new Finding();
            kept[place] = found;
        }
        return found;
    }

    /** FOUND in the ROW of its STAR with a WORLD that is PUT IN. */
    private Finding findingWith(int search, int world) {
        Text told = searchAt(search);
        World put = sky.worldAt(world);
        if (told == null || put == null || !isWithin(world, 0, WORLDS - 1)) {
            return nothing;
        }
        Finding found = keptAt(ofWorlds, search * WORLDS + world);
        if (found.age != age) {
            look.see(sky, put.star, AS_IT_IS);
            look.addWorld(put);
            finder.find(look, told, found);
            found.age = age;
        }
        return found;
    }

    /** How many that are PUT IN are FOUND with their beat and a SCORE not below a line. */
    private int caughtFrom(int search, int line) {
        int many = 0;
        for (int i = 0; i < sky.worldCount; i++) {
            World world = sky.worldAt(i);
            if (world != null && world.isPut && findingWith(search, i).isSeenWith(world.beat, line)) {
                many++;
            }
        }
        return many;
    }

    private int foundFrom(int search, int way, int line) {
        int many = 0;
        for (int star = 0; star < sky.starCount; star++) {
            many += findingOf(search, star, way).isSeen(line) ? 1 : 0;
        }
        return many;
    }

    private int radiusOf(Finding found, int star) {
        long size = sky.sizeOf(star);
        return found.radiusAt(size);
    }

    /** How many other STARS are SEEN with the same beat and first; findAll goes before it. */
    private int sameAs(int search, int star, Finding found) {
        Text told = searchAt(search);
        int many = 0;
        for (int i = 0; i < sky.starCount; i++) {
            Finding there = knownOf(search, i, AS_IT_IS);
            boolean isAlike = there.beat == found.beat && there.first == found.first;
            if (i != star && told != null && there.isSeen(told.line) && isAlike) {
                many++;
            }
        }
        return many;
    }

    /** Weighs what is FOUND of a STAR, if all these are there. */
    private boolean isWeighed(int sorter, int search, int star) {
        if (sorterAt(sorter) == null || searchAt(search) == null || !isStar(star)) {
            return false;
        }
        if (findingOf(search, star, AS_IT_IS).isNone()) {
            return false;
        }
        findAll(search, AS_IT_IS);
        weighAll(sorter, search, star);
        return true;
    }

    /** The WEIGHTS of all SORTS; findAll goes before it. */
    private void weighAll(int sorter, int search, int star) {
        Text told = sorterAt(sorter);
        if (told == null) {
            return;
        }
        fillWords(search, star);
        for (int sort = 0; sort < SORTS; sort++) {
            weights[sort] = (int) held(reckoner.weigh(told, sort, words), 0, HEAVIEST);
        }
    }

    private void fillWords(int search, int star) {
        Finding found = knownOf(search, star, AS_IT_IS);
        look.see(sky, star, AS_IT_IS);
        signs.read(look, found);
        words[0] = found.beat;
        words[1] = found.longs;
        words[2] = found.deep;
        words[3] = found.score;
        words[4] = found.dips;
        words[5] = signs.part(2);
        words[6] = signs.part(3);
        words[7] = sameAs(search, star, found);
        words[8] = signs.part(5);
        words[9] = sky.sizeOf(star);
    }

    private int heaviest() {
        int best = -2;
        int most = 0;
        for (int sort = 0; sort < SORTS; sort++) {
            if (weights[sort] > most) {
                best = sort;
                most = weights[sort];
            }
        }
        return best;
    }

    /** SEEN and SORTED world; findAll goes before it. */
    private boolean isSeenWorld(int search, int sorter, int star) {
        Text told = searchAt(search);
        if (told == null || !knownOf(search, star, AS_IT_IS).isSeen(told.line)) {
            return false;
        }
        weighAll(sorter, search, star);
        return heaviest() == 0;
    }

    private static final class Star {
        private int size;
        private int cell;
        private int luck;
        private final int[] row = new int[HOURS];

        private void begin(int newSize, int newCell, int newLuck) {
            size = newSize;
            cell = newCell;
            luck = newLuck;
            Arrays.fill(row, NOTHING);
        }

        private void become(Star from) {
            size = from.size;
            cell = from.cell;
            luck = from.luck;
            System.arraycopy(from.row, 0, row, 0, HOURS);
        }

        private int numbers() {
            int many = 0;
            for (int hour = 0; hour < HOURS; hour++) {
                many += row[hour] == NOTHING ? 0 : 1;
            }
            return many;
        }

        /** The mean of the ROW, downwards; 0 without numbers, when nobody asks for it. */
        private long mean() {
            long together = 0;
            long many = 0;
            for (int hour = 0; hour < HOURS; hour++) {
                together += row[hour] == NOTHING ? 0 : row[hour];
                many += row[hour] == NOTHING ? 0 : 1;
            }
            return many == 0 ? 0 : Math.floorDiv(together, many);
        }
    }

    /** Never changes once it is made, so that images may share it. */
    private static final class World {
        private final int star;
        private final int beat;
        private final int first;
        private final int longs;
        private final int deep;
        private final boolean isPut;

        private World(int star, int beat, int first, int longs, int deep, boolean isPut) {
            this.star = star;
            this.beat = beat;
            this.first = first;
            this.longs = longs;
            this.deep = deep;
            this.isPut = isPut;
        }

        private boolean isDipAt(int hour) {
            return hour >= first && beat > 0 && (hour - first) % beat < longs;
        }
    }

    /** All that an image holds: everything but the texts. */
    private static final class Sky {
        private int starCount;
        private final Star[] stars = new Star[STARS];
        private int worldCount;
        private final World[] worlds = new World[WORLDS];
        private int candidateCount;
        private final int[] nights = new int[CANDIDATES];
        private final int[] worths = new int[CANDIDATES];
        private int wide = 20;
        private final int[] maskStars = new int[CELLS];
        private final int[] maskBelow = new int[CELLS];
        private int order;
        private final byte[] tape = new byte[TAPE];
        private int tapeLength;

        private Star starAt(int star) {
            return star >= 0 && star < starCount && star < STARS ? stars[star] : null;
        }

        private World worldAt(int world) {
            return world >= 0 && world < worldCount && world < WORLDS ? worlds[world] : null;
        }

        private int putIn() {
            int many = 0;
            for (int i = 0; i < worldCount; i++) {
                World world = worldAt(i);
                many += world != null && world.isPut ? 1 : 0;
            }
            return many;
        }

        private long sizeOf(int star) {
            Star told = starAt(star);
            return told == null ? 0 : told.size;
        }

        private long luckOf(int star) {
            Star told = starAt(star);
            return told == null ? 0 : told.luck;
        }

        private int addStar(int size, int cell, int luck) {
            if (starCount >= STARS) {
                return NONE;
            }
            Star added = placeFor(starCount);
            added.begin(size, cell, luck);
            starCount++;
            return starCount - 1;
        }

        /** A STAR that a step back has left free is used again. */
        private Star placeFor(int star) {
            Star free = stars[star];
            if (free == null) {
                free = new Star();
                stars[star] = free;
            }
            return free;
        }

        private void addBytes(int four) {
            for (int shift = 24; shift >= 0 && tapeLength < TAPE; shift -= 8) {
                tape[tapeLength] = (byte) (four >>> shift);
                tapeLength++;
            }
        }

        /** What the real WORLDS of a STAR take away at an HOUR. */
        private long dimming(int star, int hour) {
            long together = 0;
            for (int i = 0; i < worldCount; i++) {
                World world = worldAt(i);
                if (world != null && world.star == star && !world.isPut && world.isDipAt(hour)) {
                    together += world.deep;
                }
            }
            return together;
        }

        /** Counting up to a set, its lowest bit comes in and all that are lower go out. */
        private int stepUp(int[] parts, int set) {
            int more = 0;
            int bit = Integer.numberOfTrailingZeros(set);
            for (int i = 0; i <= bit && i < parts.length; i++) {
                more += i == bit ? parts[i] : -parts[i];
            }
            return more;
        }

        private int numbers() {
            int many = 0;
            for (int i = 0; i < starCount; i++) {
                Star star = starAt(i);
                many += star == null ? 0 : star.numbers();
            }
            return many;
        }

        private void become(Sky from) {
            for (int i = 0; i < from.starCount && i < STARS; i++) {
                Star star = from.starAt(i);
                if (star != null) {
                    placeFor(i).become(star);
                }
            }
            for (int i = 0; i < from.worldCount && i < WORLDS; i++) {
                worlds[i] = from.worlds[i];
            }
            starCount = from.starCount;
            worldCount = from.worldCount;
            candidateCount = from.candidateCount;
            wide = from.wide;
            order = from.order;
            tapeLength = from.tapeLength;
            System.arraycopy(from.nights, 0, nights, 0, CANDIDATES);
            System.arraycopy(from.worths, 0, worths, 0, CANDIDATES);
            System.arraycopy(from.maskStars, 0, maskStars, 0, CELLS);
            System.arraycopy(from.maskBelow, 0, maskBelow, 0, CELLS);
            System.arraycopy(from.tape, 0, tape, 0, TAPE);
        }
    }

    /** A ROW as it is looked at, by a WAY or with something put in or left out. */
    private static final class Look {
        private final int[] at = new int[HOURS];
        /** The HOURS with a number, one behind the other: searches go through them often. */
        private final int[] hours = new int[HOURS];
        private final int[] marks = new int[HOURS];
        private int many;
        private long total;
        private long spread;
        private int in;
        private long inTotal;

        private void see(Sky sky, int star, int way) {
            Star seen = sky.starAt(star);
            if (seen == null) {
                Arrays.fill(at, NOTHING);
            } else if (way == UPSIDE_DOWN) {
                turnOver(seen.row);
            } else if (way == TURNED_ROUND) {
                moveSeasons(seen.row, ORDERS - 1);
            } else if (way == CLEAN) {
                cleanRow(seen.row, sky.wide);
            } else if (way == ORDERED) {
                moveSeasons(seen.row, sky.order);
            } else {
                System.arraycopy(seen.row, 0, at, 0, HOURS);
            }
            if (seen != null && way == UNMASKED) {
                dropMasked(sky, seen.cell);
            }
            measure();
        }

        private void turnOver(int[] row) {
            for (int hour = 0; hour < HOURS; hour++) {
                at[hour] = row[hour] == NOTHING ? NOTHING : -row[hour];
            }
        }

        /** SEASONS turned round are the last one of all orders, 3210. */
        private void moveSeasons(int[] row, int order) {
            for (int season = 0; season < SEASONS; season++) {
                int place = order * SEASONS + season;
                if (place >= 0 && place < SEASON_ORDERS.length) {
                    System.arraycopy(row, SEASON_ORDERS[place] * SEASON, at, season * SEASON, SEASON);
                }
            }
        }

        private void cleanRow(int[] row, int wide) {
            long together = 0;
            long near = 0;
            for (int hour = -wide; hour < HOURS; hour++) {
                int comes = hour + wide;
                int goes = hour - wide - 1;
                if (comes < HOURS && row[comes] != NOTHING) {
                    together += row[comes];
                    near++;
                }
                if (goes >= 0 && row[goes] != NOTHING) {
                    together -= row[goes];
                    near--;
                }
                if (hour >= 0 && row[hour] == NOTHING) {
                    at[hour] = NOTHING;
                } else if (hour >= 0 && near > 0) {
                    at[hour] = (int) held(row[hour] - Math.floorDiv(together, near), -FARTHEST, FARTHEST);
                }
            }
        }

        private void dropMasked(Sky sky, int cell) {
            if (cell < 0 || cell >= CELLS || sky.maskStars[cell] == 0) {
                return;
            }
            Arrays.fill(marks, 0);
            for (int i = 0; i < sky.starCount; i++) {
                Star star = sky.starAt(i);
                if (star != null && star.cell == cell) {
                    markLow(star.row, star.mean() - sky.maskBelow[cell]);
                }
            }
            for (int hour = 0; hour < HOURS; hour++) {
                if (marks[hour] >= sky.maskStars[cell]) {
                    at[hour] = NOTHING;
                }
            }
        }

        private void markLow(int[] row, long limit) {
            for (int hour = 0; hour < HOURS; hour++) {
                if (row[hour] != NOTHING && row[hour] < limit) {
                    marks[hour]++;
                }
            }
        }

        private void measure() {
            long squares = 0;
            many = 0;
            total = 0;
            for (int hour = 0; hour < HOURS; hour++) {
                long n = at[hour];
                if (n != NOTHING) {
                    hours[many] = hour;
                    many++;
                    total += n;
                    squares += n * n;
                }
            }
            long divisor = (long) many * many;
            spread = divisor == 0 ? 1 : Math.max(1, (many * squares - total * total) / divisor);
        }

        private void addWorld(World world) {
            for (int hour = 0; hour < HOURS; hour++) {
                if (at[hour] != NOTHING && world.isDipAt(hour)) {
                    at[hour] = Math.max(-FARTHEST, at[hour] - world.deep);
                }
            }
            measure();
        }

        private void dropDips(int beat, int longs, int first) {
            for (int hour = 0; hour < HOURS; hour++) {
                if (beat > 0 && Math.floorMod(hour - first, beat) < longs) {
                    at[hour] = NOTHING;
                }
            }
            measure();
        }

        private void tally(int beat, int longs, int first) {
            in = 0;
            inTotal = 0;
            for (int i = 0; i < many; i++) {
                int hour = hours[i];
                if (beat > 0 && Math.floorMod(hour - first, beat) < longs) {
                    in++;
                    inTotal += at[hour];
                }
            }
        }

        /** DEEP of what was tallied. */
        private long deep() {
            return deepBetween(many - in, total - inTotal, in, inTotal);
        }

        private static long deepBetween(int out, long outTotal, int in, long inTotal) {
            long divisor = (long) out * in;
            return divisor <= 0 ? NOTHING : Math.floorDiv(outTotal * in - inTotal * out, divisor);
        }

        /** SCORE of what was tallied. */
        private long score() {
            int out = many - in;
            long divisor = (long) out * in;
            long gap = (total - inTotal) * in - inTotal * out;
            if (divisor < 1 || gap < divisor || spread < 1) {
                return 0;
            }
            long deep = gap / divisor;
            return deep * deep * in / spread;
        }

        private int dips(int beat, int longs, int first) {
            if (beat < 1) {
                return 0;
            }
            int dips = 0;
            for (int start = first - beat; start < HOURS; start += beat) {
                dips += hasNumber(start, longs) ? 1 : 0;
            }
            return dips;
        }

        private boolean hasNumber(int start, int longs) {
            for (int hour = start; hour < start + longs; hour++) {
                if (hour >= 0 && hour < HOURS && at[hour] != NOTHING) {
                    return true;
                }
            }
            return false;
        }

        /** SHIFT of a DIP that begins at an HOUR, which may lie before or behind the ROW. */
        private int shiftOf(int begin, int longs) {
            int best = NO_SHIFT;
            long bestTotal = 0;
            long bestMany = 0;
            for (int i = 0; i < SHIFTS.length; i++) {
                long together = 0;
                long numbers = 0;
                int start = begin + SHIFTS[i];
                int stop = Math.min(start + longs, HOURS);
                for (int hour = Math.max(start, 0); hour < stop; hour++) {
                    if (at[hour] != NOTHING) {
                        together += at[hour];
                        numbers++;
                    }
                }
                boolean isLess = bestMany == 0 || together * bestMany < bestTotal * numbers;
                if (numbers > 0 && isLess) {
                    best = SHIFTS[i];
                    bestTotal = together;
                    bestMany = numbers;
                }
            }
            return best;
        }

        private long scoreTwice(Finding found) {
            int beat = 2 * found.beat;
            if (beat > LONGEST_BEAT) {
                return 0;
            }
            tally(beat, found.longs, found.first);
            long score = score();
            tally(beat, found.longs, found.first + found.beat);
            return Math.max(score, score());
        }

        private long scoreHalf(Finding found) {
            int beat = found.beat / 2;
            if (beat < 1 || found.beat % 2 != 0 || found.longs >= beat) {
                return 0;
            }
            tally(beat, found.longs, found.first % beat);
            return score();
        }
    }

    /** What is FOUND, with its SCORE; a SCORE of 0 says that nothing is. */
    private static final class Finding {
        private int age;
        private int beat;
        private int longs;
        private int first;
        private int dips;
        private long deep;
        private long score;

        private boolean isNone() {
            return score < 1 || beat < 1;
        }

        private boolean isSeen(int line) {
            return !isNone() && score >= line;
        }

        private boolean isSeenWith(int beatTold, int line) {
            return isSeen(line) && beat == beatTold;
        }

        private long part(int what, int line) {
            if (what == 6) {
                return isSeen(line) ? 1 : 0;
            }
            if (isNone()) {
                return NONE;
            }
            switch (what) {
                case 0:
                    return beat;
                case 1:
                    return longs;
                case 2:
                    return first;
                case 3:
                    return deep;
                case 4:
                    return score;
                default:
                    return dips;
            }
        }

        /** RADIUS for a STAR of a size: below 800, as DEEP is 60000 at most and size 999. */
        private int radiusAt(long size) {
            long limit = deep * size * size;
            int r = 0;
            while (r < 1000 && (r + 1L) * (r + 1L) * 100000L <= limit) {
                r++;
            }
            return r;
        }
    }

    /** Tries all that a SEARCH asks for in a ROW as it is looked at. */
    private static final class Finder {
        private final int[] counts = new int[LONGEST_BEAT];
        private final long[] totals = new long[LONGEST_BEAT];

        private void find(Look look, Text search, Finding best) {
            best.beat = 0;
            best.dips = 0;
            best.score = 0;
            int last = Math.min(search.beatTo, LONGEST_BEAT);
            for (int beat = Math.max(2, search.beatFrom); beat <= last; beat++) {
                // a DIP more may hang over each end of the ROW
                boolean hasRoom = HOURS / beat + 2 >= search.least;
                if (hasRoom && look.many > 1) {
                    foldBy(look, beat);
                    tryBeat(look, search, beat, best);
                }
            }
            if (!best.isNone()) {
                look.tally(best.beat, best.longs, best.first);
                best.deep = look.deep();
                best.dips = look.dips(best.beat, best.longs, best.first);
            }
        }

        /** Adds up the numbers by their rest once, so that each first is one step of a window. */
        private void foldBy(Look look, int beat) {
            for (int rest = 0; rest < beat && rest < LONGEST_BEAT; rest++) {
                counts[rest] = 0;
                totals[rest] = 0;
            }
            for (int i = 0; i < look.many; i++) {
                int hour = look.hours[i];
                int rest = beat > 0 ? hour % beat : 0;
                if (rest < LONGEST_BEAT) {
                    counts[rest]++;
                    totals[rest] += look.at[hour];
                }
            }
        }

        private void tryBeat(Look look, Text search, int beat, Finding best) {
            int last = Math.min(search.longTo, beat - 1);
            for (int longs = Math.max(1, search.longFrom); longs <= last; longs++) {
                int in = 0;
                long inTotal = 0;
                for (int rest = 0; rest < longs - 1; rest++) {
                    in += counts[rest];
                    inTotal += totals[rest];
                }
                for (int first = 0; first < beat; first++) {
                    int comes = first + longs - 1;
                    comes -= comes >= beat ? beat : 0;
                    in += counts[comes];
                    inTotal += totals[comes];
                    look.in = in;
                    look.inTotal = inTotal;
                    long score = look.score();
                    // a DIP has an HOUR IN at least, so that few HOURS spare counting DIPS
                    if (score > best.score && in >= search.least
                        && look.dips(beat, longs, first) >= search.least) {
                        best.beat = beat;
                        best.longs = longs;
                        best.first = first;
                        best.score = score;
                    }
                    in -= counts[first];
                    inTotal -= totals[first];
                }
            }
        }
    }

    /** The signs of what is FOUND in a ROW as it is. */
    private static final class Signs {
        private static final int OUT = 0;
        private static final int EVEN = 1;
        private static final int ODD = 2;
        private static final int MIDDLE = 3;
        private static final int EDGES = 4;

        private final int[] counts = new int[5];
        private final long[] totals = new long[5];
        private final int[] deeps = new int[5];
        /** SHIFTS of the DIPS from k = -1 on; NO_SHIFT where there is no DIP. */
        private final int[] shifts = new int[LAST_DIP + 2];

        private void read(Look look, Finding found) {
            Arrays.fill(counts, 0);
            Arrays.fill(totals, 0L);
            if (found.beat > 0) {
                addHours(look, found);
            }
            for (int i = 0; i < deeps.length; i++) {
                deeps[i] = (int) Look.deepBetween(counts[OUT], totals[OUT], counts[i], totals[i]);
            }
            readShifts(look, found);
        }

        private void addHours(Look look, Finding found) {
            int edge = found.longs / 3;
            for (int i = 0; i < look.many; i++) {
                int hour = look.hours[i];
                int n = look.at[hour];
                int rest = Math.floorMod(hour - found.first, found.beat);
                if (rest >= found.longs) {
                    add(OUT, n);
                } else {
                    boolean isMiddle = rest >= edge && rest <= found.longs - 1 - edge;
                    add(isMiddle ? MIDDLE : EDGES, n);
                    int k = Math.floorDiv(hour - found.first, found.beat);
                    add(Math.floorMod(k, 2) == 0 ? EVEN : ODD, n);
                }
            }
        }

        private void add(int group, int n) {
            counts[group]++;
            totals[group] += n;
        }

        private int part(int what) {
            switch (what) {
                case 0:
                    return deeps[EVEN];
                case 1:
                    return deeps[ODD];
                case 2:
                    return Math.abs(gap(EVEN, ODD));
                case 3:
                    return gap(MIDDLE, EDGES);
                default:
                    return late();
            }
        }

        private int gap(int one, int two) {
            return counts[one] == 0 || counts[two] == 0 ? 0 : deeps[one] - deeps[two];
        }

        private void readShifts(Look look, Finding found) {
            for (int i = 0; i < shifts.length; i++) {
                int begin = found.first + (i - 1) * found.beat;
                boolean isDip = look.hasNumber(begin, found.longs);
                shifts[i] = isDip ? look.shiftOf(begin, found.longs) : NO_SHIFT;
            }
        }

        private int late() {
            int least = NO_SHIFT;
            int most = NO_SHIFT;
            for (int i = 0; i < shifts.length; i++) {
                if (shifts[i] != NO_SHIFT) {
                    least = least == NO_SHIFT ? shifts[i] : Math.min(least, shifts[i]);
                    most = Math.max(most, shifts[i]);
                }
            }
            return most - least;
        }

        private int shifted() {
            int many = 0;
            for (int i = 0; i < shifts.length; i++) {
                many += shifts[i] != NO_SHIFT && shifts[i] != 0 ? 1 : 0;
            }
            return many;
        }

        private int round() {
            for (int p = 1; p <= LONGEST_ROUND; p++) {
                if (isRound(p)) {
                    return p;
                }
            }
            return NONE;
        }

        private boolean isRound(int p) {
            boolean isSome = false;
            for (int i = 0; i + p < shifts.length; i++) {
                boolean areDips = shifts[i] != NO_SHIFT && shifts[i + p] != NO_SHIFT;
                if (areDips && shifts[i] != shifts[i + p]) {
                    return false;
                }
                isSome = isSome || areDips;
            }
            return isSome;
        }
    }

    /** A text that has been read: numbers of single clauses, and SUMS and TESTS as code. */
    private static final class Text {
        private int noise;
        private int beatFrom;
        private int beatTo;
        private int longFrom;
        private int longTo;
        private int least;
        private int line;
        /** Of each clause with a SUM: its kind, where its code begins, where its TEST does, where it ends. */
        private int clauses;
        private final int[] kinds = new int[CLAUSES];
        private final int[] sumAt = new int[CLAUSES];
        private final int[] testAt = new int[CLAUSES];
        private final int[] endAt = new int[CLAUSES];
        /** Operands before their sign; each takes a byte of the tape at least. */
        private final int[] code = new int[TAPE];
        private int codeLength;

        private void begin() {
            noise = 0;
            beatFrom = 2;
            beatTo = 100;
            longFrom = 1;
            longTo = 5;
            least = 1;
            line = 0;
            clauses = 0;
            codeLength = 0;
        }

        private void addCode(int one) {
            if (codeLength < TAPE) {
                code[codeLength] = one;
                codeLength++;
            }
        }

        private void openClause(int kind) {
            if (clauses < CLAUSES) {
                kinds[clauses] = kind;
                sumAt[clauses] = codeLength;
            }
        }

        private void endSum() {
            if (clauses < CLAUSES) {
                testAt[clauses] = codeLength;
            }
        }

        private void closeClause() {
            if (clauses < CLAUSES) {
                endAt[clauses] = codeLength;
                clauses++;
            }
        }
    }

    /** Works out the code of texts on a stack. */
    private static final class Reckoner {
        /** 10 levels of brackets, two waiting in each, and a SUM: fewer than 30. */
        private final long[] stack = new long[64];

        /** The SUM of the first clause that holds; 0 without. */
        private long brightness(Text law, long[] words) {
            for (int i = 0; i < law.clauses && i < CLAUSES; i++) {
                if (holds(law, i, words)) {
                    return run(law, law.sumAt[i], law.testAt[i], words);
                }
            }
            return 0;
        }

        /** The SUMS of all clauses of a SORT that hold. */
        private long weigh(Text sorter, int sort, long[] words) {
            long together = 0;
            for (int i = 0; i < sorter.clauses && i < CLAUSES; i++) {
                if (sorter.kinds[i] == sort && holds(sorter, i, words)) {
                    together += run(sorter, sorter.sumAt[i], sorter.testAt[i], words);
                }
            }
            return together;
        }

        private boolean holds(Text text, int clause, long[] words) {
            int from = text.testAt[clause];
            int to = text.endAt[clause];
            return from == to || run(text, from, to, words) != 0;
        }

        private long run(Text text, int from, int to, long[] words) {
            int top = 0;
            for (int i = Math.max(0, from); i < to && i < TAPE; i++) {
                int one = text.code[i];
                if (one < SIGN_CODE && top < stack.length) {
                    stack[top] = operand(one, words);
                    top++;
                } else if (one == SIGN_CODE + NOT && top > 0) {
                    stack[top - 1] = 1 - stack[top - 1];
                } else if (one > SIGN_CODE && top > 1) {
                    top--;
                    stack[top - 1] = combine(one - SIGN_CODE, stack[top - 1], stack[top]);
                }
            }
            return top > 0 ? stack[top - 1] : 0;
        }

        private static long operand(int one, long[] words) {
            if (one < WORD_CODE) {
                return one;
            }
            int word = one - WORD_CODE;
            return word < words.length ? words[word] : 0;
        }

        private static long combine(int sign, long a, long b) {
            switch (sign) {
                case '+':
                    return a + b;
                case '-':
                    return a - b;
                case '*':
                    return a * b;
                case '/':
                    return b == 0 ? 0 : a / b;
                case '<':
                    return a < b ? 1 : 0;
                case AT_MOST:
                    return a <= b ? 1 : 0;
                case '=':
                    return a == b ? 1 : 0;
                case AT_LEAST:
                    return a >= b ? 1 : 0;
                case '>':
                    return a > b ? 1 : 0;
                case AND:
                    return a & b;
                default:
                    return a | b;
            }
        }
    }

    /** Reads a text token by token and stops at its first fault. */
    private static final class Parser {
        private static final int UNFIT = 0;
        private static final int WRONG_NUMBER = 1;
        private static final int TOO_DEEP = 2;
        private static final int TOO_MANY = 3;
        private static final int NO_MORE_CLAUSE = 4;
        private static final int DEEPEST = 10;
        private static final int MOST_VALUES = 60;
        private static final int MOST_DIGITS = 5;

        private byte[] tape = new byte[0];
        private int length;
        private int place;
        private int kind;
        private int start;
        private int number;
        private int fault;
        private int values;
        private int given;
        private String known = "";
        private Text text = new Text();
        private boolean isHanded;

        /** The FAULT of a text, 0 without one; handOver then has the text. */
        private int read(byte[] newTape, int newLength, int sort) {
            tape = newTape;
            length = Math.min(newLength, newTape.length);
            place = 0;
            fault = 0;
            values = 0;
            given = 0;
            known = sort == LAW ? LAW_WORDS : SORTER_WORDS;
            if (isHanded) {
                text = new Text();
                isHanded = false;
            }
            text.begin();
            step();
            // each clause takes a byte at least
            for (int i = 0; i <= TAPE && fault == 0; i++) {
                readClause(sort, i);
                if (fault != 0 || kind == END) {
                    break;
                }
                expect(';');
            }
            return fault;
        }

        /** A text with a fault is written over by the next one; a good one is the caller's. */
        private Text handOver() {
            isHanded = true;
            return text;
        }

        private void setFault(int sort) {
            if (fault == 0) {
                fault = 1 + 8 * start + sort;
            }
        }

        private void expect(int sign) {
            if (kind == sign) {
                step();
            } else {
                setFault(UNFIT);
            }
        }

        /** Goes to the next token. */
        private void step() {
            while (place < length && tape[place] == ' ') {
                place++;
            }
            start = place;
            int sign = place < length ? tape[place] & 255 : END;
            if (sign >= '0' && sign <= '9') {
                kind = NUMBER;
                number = 0;
                while (place < length && tape[place] >= '0' && tape[place] <= '9') {
                    boolean isShort = place - start < MOST_DIGITS;
                    number = isShort ? number * 10 + tape[place] - '0' : NONE;
                    place++;
                }
            } else if (sign >= 'a' && sign <= 'z') {
                kind = WORD;
                while (place < length && tape[place] >= 'a' && tape[place] <= 'z') {
                    place++;
                }
            } else {
                kind = sign;
                place += sign == END ? 0 : 1;
                boolean isEqualToo = place < length && tape[place] == '=';
                if (isEqualToo && (sign == '<' || sign == '>')) {
                    kind = sign == '<' ? AT_MOST : AT_LEAST;
                    place++;
                }
            }
        }

        /** Which of the words, told with blanks between them, the token is; NONE if it is none. */
        private int whichOf(String list) {
            if (kind != WORD) {
                return NONE;
            }
            int which = 0;
            int alike = start;
            for (int i = 0; i <= list.length(); i++) {
                char sign = i < list.length() ? list.charAt(i) : ' ';
                if (sign == ' ') {
                    if (alike == place) {
                        return which;
                    }
                    which++;
                    alike = start;
                } else {
                    boolean isAlike = alike >= 0 && alike < place && tape[alike] == sign;
                    alike = isAlike ? alike + 1 : NONE;
                }
            }
            return NONE;
        }

        private void readClause(int sort, int clause) {
            String list = sort == LAW ? LAW_CLAUSES : sort == SEARCH ? SEARCH_CLAUSES : SORTER_CLAUSES;
            int which = whichOf(list);
            boolean isNoise = sort == LAW && which == 1;
            boolean isOnce = sort == SEARCH || isNoise;
            if (which == NONE) {
                setFault(UNFIT);
                return;
            }
            if (clause >= CLAUSES || isOnce && (given >> which & 1) == 1) {
                setFault(NO_MORE_CLAUSE);
                return;
            }
            given |= 1 << which;
            step();
            if (sort == SEARCH) {
                readSearch(which);
            } else if (isNoise) {
                text.noise = readNumber(0, 9999);
            } else {
                text.openClause(which);
                readSum();
                text.endSum();
                if (fault == 0 && whichOf("if") == 0) {
                    step();
                    readTest(0);
                }
                text.closeClause();
            }
        }

        private void readSearch(int which) {
            if (which == 0) {
                text.beatFrom = readNumber(2, LONGEST_BEAT);
                text.beatTo = readNumber(text.beatFrom, LONGEST_BEAT);
            } else if (which == 1) {
                text.longFrom = readNumber(1, LONGEST_LONG);
                text.longTo = readNumber(text.longFrom, LONGEST_LONG);
            } else if (which == 2) {
                text.least = readNumber(1, 99);
            } else {
                text.line = readNumber(0, 99999);
            }
        }

        private int readNumber(int least, int most) {
            if (fault != 0) {
                return NONE;
            }
            if (kind != NUMBER) {
                setFault(UNFIT);
                return NONE;
            }
            if (number < least || number > most) {
                setFault(WRONG_NUMBER);
                return NONE;
            }
            int told = number;
            step();
            return told;
        }

        /** PARTS wait for the next or, so that and binds closer. */
        private void readTest(int depth) {
            boolean isWaiting = false;
            readFact(depth);
            for (int i = 0; i < TAPE && fault == 0; i++) {
                int which = whichOf("and or");
                if (which == NONE) {
                    break;
                }
                step();
                if (which == 1 && isWaiting) {
                    text.addCode(SIGN_CODE + OR);
                }
                isWaiting = isWaiting || which == 1;
                readFact(depth);
                if (which == 0) {
                    text.addCode(SIGN_CODE + AND);
                }
            }
            if (isWaiting) {
                text.addCode(SIGN_CODE + OR);
            }
        }

        private void readFact(int depth) {
            boolean isNot = whichOf("not") == 0;
            if ((isNot || kind == '[') && depth >= DEEPEST) {
                setFault(TOO_DEEP);
            } else if (isNot) {
                step();
                readFact(depth + 1);
                text.addCode(SIGN_CODE + NOT);
            } else if (kind == '[') {
                step();
                readTest(depth + 1);
                expect(']');
            } else {
                readSum();
                int sign = kind;
                readSign();
                if (fault == 0) {
                    readSum();
                    text.addCode(SIGN_CODE + sign);
                }
            }
        }

        private void readSign() {
            boolean isLess = kind == '<' || kind == AT_MOST;
            boolean isMore = kind == '>' || kind == AT_LEAST;
            if (!isLess && !isMore && kind != '=') {
                setFault(UNFIT);
            } else if (values >= MOST_VALUES) {
                setFault(TOO_MANY);
            } else {
                values++;
                step();
            }
        }

        /** A TERM waits for the next + or -, so that * and / bind closer. */
        private void readSum() {
            int waiting = NONE;
            readValue();
            for (int i = 0; i < TAPE && fault == 0; i++) {
                int sign = kind;
                boolean isClose = sign == '*' || sign == '/';
                if (!isClose && sign != '+' && sign != '-') {
                    break;
                }
                step();
                if (!isClose && waiting != NONE) {
                    text.addCode(SIGN_CODE + waiting);
                }
                waiting = isClose ? waiting : sign;
                readValue();
                if (isClose) {
                    text.addCode(SIGN_CODE + sign);
                }
            }
            if (waiting != NONE) {
                text.addCode(SIGN_CODE + waiting);
            }
        }

        private void readValue() {
            int word = whichOf(known);
            if (kind != NUMBER && word == NONE) {
                setFault(UNFIT);
            } else if (kind == NUMBER && number == NONE) {
                setFault(WRONG_NUMBER);
            } else if (values >= MOST_VALUES) {
                setFault(TOO_MANY);
            } else {
                values++;
                text.addCode(kind == NUMBER ? number : WORD_CODE + word);
                step();
            }
        }
    }
}
