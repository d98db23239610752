import java.util.Arrays;

/**
 * Wells that are dug by listening. The document's promises are kept here; each public method
 * looks at its numbers first, and what the calls share is done by the classes inside.
 */
public final class ListenWells {
    /** There is none. */
    public static final int NONE = -1;
    /** What is not there, where it could be below 0. */
    public static final int NOTHING = -100000;

    private static final int BAD_NUMBER = -1;
    private static final int NO_SUCH = -2;
    private static final int CANNOT_BE = -3;
    private static final int NO_ROOM = -5;
    private static final int UNREADABLE = -6;

    private static final int WIDE = 8;
    private static final int DEEP = 5;
    private static final int CELLS = 40;
    private static final int SHAFTS = 6;
    private static final int LISTENERS = 5;
    private static final int NOISES = 6;
    private static final int HEARSAY = 8;
    private static final int WELLS = 10;
    private static final int SOUND_SETS = 64;
    private static final int LAWS = 6;
    private static final int IMAGES = 2;
    private static final int LOUDEST = 99;
    private static final int KEENEST = 20;

    private static final int ROCK = 0;
    private static final int SAND = 1;
    private static final int SALT = 2;
    private static final int WATER = 3;

    private static final int LEFT = 0;
    private static final int RIGHT = 2;

    private static final int DAY = 0;
    private static final int THUNDER = 1;
    private static final int MOOD = 2;
    private static final int LAST_DAY = 9999;
    private static final int MOST_BUCKETS = 9999;

    private static final int TAPE = 400;
    private static final int FEED = 20;
    private static final int MOST_SEED = 1000000;
    private static final int MOST_SEASONS = 60;
    private static final int MOST_DAYS_IN_TIME = 200;

    private final Asker asker = new Asker();
    private final Site site = new Site(asker);
    /** What is tried here (ORDERS, SEASONS) leaves the site itself as it was. */
    private final Site paper = new Site(asker);
    private final World[] images = {new World(), new World()};
    private final boolean[] kept = new boolean[IMAGES];
    private final Reader reader = new Reader();
    private final Ways ways = new Ways();
    private final Ears ears = new Ears(asker);
    /** The SHAFTS behind the latest SEASONS; drawnDay is NONE ahead of any. */
    private final Crew drawnCrew = new Crew();
    private int drawnDay = NONE;
    private int latestMud;
    private int stoppedAt = NONE;
    /** How many calls were REFUSED, by what they were refused by, turned positive. */
    private final int[] refusals = new int[7];
    private int latestRefusal;

    /** Dry rock. */
    public ListenWells() {
    }

    public int put(int cell, int what, int value) {
        World world = site.world;
        if (!isWithin(cell, CELLS) || !Rock.canBe(what, value)) {
            return settle(BAD_NUMBER);
        }
        if (what == 0 && world.rock.isDug(cell)) {
            return settle(CANNOT_BE);
        }
        int[] row = world.rock.rowOf(what);
        int was = row[cell];
        row[cell] = value;
        site.diary.clear();
        return settle(was);
    }

    public int at(int cell, int what) {
        if (!isWithin(cell, CELLS)) {
            return NONE;
        }
        World world = site.world;
        asker.turnTo(world, world.lawInForce());
        switch (what) {
            case 0:
            case 1:
            case 2:
                return world.rock.rowOf(what)[cell];
            case 3:
                return world.rock.isDug(cell) ? 1 : 0;
            case 4:
                return asker.saysOf(cell, world.rock.kind[cell]);
            case 5:
                return asker.losesOf(cell, world.rock.kind[cell]);
            default:
                return NONE;
        }
    }

    public int sink(int column) {
        if (!isWithin(column, WIDE)) {
            return settle(BAD_NUMBER);
        }
        Rock rock = site.world.rock;
        Crew crew = site.world.crew;
        if (rock.isDug(column) || rock.kind[column] == SAND) {
            return settle(CANNOT_BE);
        }
        if (crew.count >= SHAFTS) {
            return settle(NO_ROOM);
        }
        rock.mark(column);
        crew.add(column);
        site.diary.clear();
        return settle(crew.count - 1);
    }

    public int of(int shaft, int what) {
        World world = site.world;
        if (!isWithin(shaft, world.crew.count)) {
            return NONE;
        }
        int cell = world.crew.cell[shaft];
        switch (what) {
            case 0:
                return cell;
            case 1:
                return world.crew.buckets[shaft];
            case 2:
                return world.rock.kind[cell] == SALT ? 1 : 0;
            case 3:
                return world.rock.kind[cell] == WATER ? 1 : 0;
            case 4:
                return world.shareOf(cell);
            default:
                return NONE;
        }
    }

    public int listener(int column, int ear) {
        if (!isWithin(column, WIDE) || !isWithin(ear, KEENEST + 1)) {
            return settle(BAD_NUMBER);
        }
        Folk folk = site.world.folk;
        if (folk.listeners >= LISTENERS) {
            return settle(NO_ROOM);
        }
        folk.addListener(column, ear);
        site.diary.clear();
        return settle(folk.listeners - 1);
    }

    public int noise(int column, int loud) {
        if (!isWithin(column, WIDE) || !isWithin(loud, KEENEST + 1)) {
            return settle(BAD_NUMBER);
        }
        Folk folk = site.world.folk;
        if (folk.noises >= NOISES) {
            return settle(NO_ROOM);
        }
        folk.addNoise(column, loud);
        site.diary.clear();
        return settle(folk.noises - 1);
    }

    public int who(int k, int what) {
        Folk folk = site.world.folk;
        boolean ofListener = what == 0 || what == 1;
        if (!isWithin(k, ofListener ? folk.listeners : folk.noises)) {
            return NONE;
        }
        switch (what) {
            case 0:
                return folk.column[k];
            case 1:
                return folk.ear[k];
            case 2:
                return folk.noiseColumn[k];
            case 3:
                return folk.noiseLoud[k];
            case 4:
                return folk.hushed >> k & 1;
            default:
                return NONE;
        }
    }

    public int terms(int what, int value) {
        if (!World.termCanBe(what, value)) {
            return settle(BAD_NUMBER);
        }
        int was = site.world.term[what];
        site.world.term[what] = value;
        site.diary.clear();
        return settle(was);
    }

    public int feed(int a, int b, int c, int d, int e) {
        if (reader.length + FEED > TAPE) {
            return NONE;
        }
        reader.addFour(a);
        reader.addFour(b);
        reader.addFour(c);
        reader.addFour(d);
        reader.addFour(e);
        return reader.length;
    }

    public int end(int n) {
        if (n < 0 || n > reader.length) {
            return NONE;
        }
        reader.length = n;
        return n;
    }

    public int row() {
        if (reader.length == 0) {
            return settle(UNREADABLE);
        }
        int groups = (reader.length + 2) / 3;
        int told = 0;
        for (int cell = 0; cell < groups; cell++) {
            if (reader.tellCell(site.world.rock, cell)) {
                told++;
            }
        }
        latestMud = groups - told;
        reader.length = 0;
        site.diary.clear();
        return settle(told);
    }

    public int mud() {
        return latestMud;
    }

    public int law() {
        World world = site.world;
        if (world.lawCount >= LAWS) {
            reader.length = 0;
            return settle(NO_ROOM);
        }
        if (!reader.read(false)) {
            return settle(UNREADABLE);
        }
        world.laws[world.lawCount] = reader.draft.trimmed();
        world.lawCount++;
        return settle(world.lawCount - 1);
    }

    public int orders() {
        stoppedAt = NONE;
        if (!reader.read(true)) {
            return settle(UNREADABLE);
        }
        paper.copyFrom(site);
        int clause = paper.runOrders(reader.draft);
        if (clause != NONE) {
            stoppedAt = clause;
            return settle(CANNOT_BE);
        }
        site.copyFrom(paper);
        return settle(paper.done);
    }

    public int fault() {
        return reader.faultPlace;
    }

    public int stopped() {
        return stoppedAt;
    }

    public int force(int law) {
        World world = site.world;
        if (!world.hasLaw(law)) {
            return settle(NO_SUCH);
        }
        int was = world.force;
        world.force = law;
        // NONE is an answer here: it must not be taken for a call that was REFUSED.
        latestRefusal = 0;
        return was;
    }

    public int asks(int shaft, int cell, int what) {
        World world = site.world;
        if (!isWithin(shaft, world.crew.count) || !isWithin(cell, CELLS)) {
            return NONE;
        }
        asker.turnTo(world, world.lawInForce());
        switch (what) {
            case 0:
                return asker.digsOf(shaft, cell);
            case 1:
                return asker.passesOf(shaft, cell) ? 1 : 0;
            case 2:
                return asker.givesOf(shaft, cell);
            default:
                return NONE;
        }
    }

    public int loud(int cell, int column) {
        if (!isWithin(cell, CELLS) || !isWithin(column, WIDE)) {
            return NOTHING;
        }
        World world = site.world;
        asker.turnTo(world, world.lawInForce());
        int kind = world.rock.kind[cell];
        return asker.saysOf(cell, kind) - stepsTo(cell, column) * asker.losesOf(cell, kind);
    }

    public int din(int column) {
        return isWithin(column, WIDE) ? site.world.folk.noiseIn(column, 0) : NONE;
    }

    public long hears(int listener) {
        World world = site.world;
        if (!isWithin(listener, world.folk.listeners)) {
            return NONE;
        }
        ears.measure(world, world.lawInForce());
        return ears.cellsHeardBy(world, listener);
    }

    public int dig(int shaft, int way) {
        return settle(site.tryDig(shaft, way));
    }

    public int haul(int shaft) {
        return settle(site.tryHaul(shaft));
    }

    public int hush(int noise) {
        return settle(site.tryHush(noise));
    }

    public int lie(int listener, int column) {
        return settle(site.tryLie(listener, column));
    }

    public int undo() {
        return settle(site.takeBack());
    }

    public int down(int shaft, int cell, int what) {
        if (what < 0 || !findWay(shaft, cell)) {
            return NONE;
        }
        if (what == 0) {
            return ways.days;
        }
        ways.walk(site.world.crew.cell[shaft], cell);
        if (what == 1) {
            return ways.steps;
        }
        return what - 2 < ways.steps ? ways.path[what - 2] : NONE;
    }

    public int gangs(long cells, int what) {
        int shafts = site.world.crew.count;
        if (cells < 0 || cells >> CELLS != 0 || Long.bitCount(cells) > SHAFTS || !isWithin(what, shafts + 1)) {
            return NONE;
        }
        asker.turnTo(site.world, site.world.lawInForce());
        if (!ways.share(site.world, asker, cells)) {
            return NONE;
        }
        return what == 0 ? ways.days : ways.cellOfShaft[what - 1];
    }

    public int quiet(int listeners, int cell, int what) {
        World world = site.world;
        boolean known = listeners >= 0 && listeners >> world.folk.listeners == 0;
        if (!known || !isWithin(cell, CELLS) || !isWithin(what, 2) || world.rock.kind[cell] != WATER) {
            return NONE;
        }
        asker.turnTo(world, world.lawInForce());
        int hushing = ears.fewestToHush(world, listeners, cell);
        if (hushing == NONE) {
            return NONE;
        }
        return what == 0 ? Integer.bitCount(hushing) : hushing;
    }

    public int heard(int column, int loud) {
        if (!isWithin(column, WIDE) || !isWithin(loud, LOUDEST + 1)) {
            return settle(BAD_NUMBER);
        }
        Folk folk = site.world.folk;
        if (folk.hearsay >= HEARSAY) {
            return settle(NO_ROOM);
        }
        folk.addHearsay(column, loud);
        return settle(folk.hearsay);
    }

    public int forget() {
        Folk folk = site.world.folk;
        int were = folk.hearsay + folk.wells;
        folk.hearsay = 0;
        folk.wells = 0;
        return were;
    }

    public long hidden() {
        return ears.hiddenCells(site.world);
    }

    public int next(int what) {
        long hidden = isWithin(what, 2) ? ears.hiddenCells(site.world) : 0;
        if (hidden == 0) {
            return NONE;
        }
        int best = 0;
        int fewest = ears.mostAlike(hidden, 0);
        for (int column = 1; column < WIDE; column++) {
            int most = ears.mostAlike(hidden, column);
            if (most < fewest) {
                fewest = most;
                best = column;
            }
        }
        return what == 0 ? best : fewest;
    }

    public int well(int sounds, int wet) {
        if (!isWithin(sounds, SOUND_SETS) || !isWithin(wet, 2)) {
            return settle(BAD_NUMBER);
        }
        Folk folk = site.world.folk;
        if (folk.wells >= WELLS) {
            return settle(NO_ROOM);
        }
        folk.addWell(sounds, wet);
        return settle(folk.wells);
    }

    public int tongue(int what) {
        int sounds = isWithin(what, 2) ? site.world.folk.fewestSounds() : NONE;
        if (sounds == NONE) {
            return NONE;
        }
        return what == 0 ? Integer.bitCount(sounds) : sounds;
    }

    public long vein(int cell, int what) {
        World world = site.world;
        if (!isWithin(cell, CELLS) || world.rock.kind[cell] != WATER) {
            return NONE;
        }
        long cells = world.rock.veinOf(cell);
        switch (what) {
            case 0:
                return cells;
            case 1:
                return world.rock.waterIn(cells);
            case 2:
                return world.crew.countIn(cells);
            default:
                return NONE;
        }
    }

    public long time(int shaft, int cell, int n) {
        if (!isWithin(n, MOST_DAYS_IN_TIME + 1) || !findWay(shaft, cell)) {
            return NONE;
        }
        return ways.chanceIn(n, site.world.term[THUNDER]);
    }

    public int compare(int law) {
        World world = site.world;
        if (!world.hasLaw(law)) {
            return NONE;
        }
        ears.measure(world, world.lawOf(law));
        int together = 0;
        for (int listener = 0; listener < world.folk.listeners; listener++) {
            together += Long.bitCount(ears.cellsHeardBy(world, listener));
        }
        return together;
    }

    public int seasons(int seed, int n) {
        if (!isWithin(seed, MOST_SEED + 1) || n < 1 || n > MOST_SEASONS) {
            return settle(BAD_NUMBER);
        }
        if (site.world.crew.count == 0) {
            return settle(CANNOT_BE);
        }
        paper.copyFrom(site);
        paper.runSeasons(seed, n);
        drawnCrew.copyFrom(paper.world.crew);
        drawnDay = paper.world.term[DAY];
        return settle(drawnCrew.allBuckets() - site.world.crew.allBuckets());
    }

    public int drawn(int k, int what) {
        if (drawnDay == NONE || what < 0 || what > 2) {
            return NONE;
        }
        if (what == 2) {
            return drawnDay;
        }
        if (!isWithin(k, drawnCrew.count)) {
            return NONE;
        }
        return what == 0 ? drawnCrew.cell[k] : drawnCrew.buckets[k];
    }

    public int image(int k) {
        if (!isWithin(k, IMAGES)) {
            return settle(BAD_NUMBER);
        }
        images[k].copyFrom(site.world);
        kept[k] = true;
        return settle(0);
    }

    public int back(int k) {
        if (!isWithin(k, IMAGES)) {
            return settle(BAD_NUMBER);
        }
        if (!kept[k]) {
            return settle(NO_SUCH);
        }
        site.world.copyFrom(images[k]);
        site.diary.clear();
        return settle(0);
    }

    public int count(int what) {
        World world = site.world;
        switch (what) {
            case 0:
                return world.crew.count;
            case 1:
                return world.folk.listeners;
            case 2:
                return world.folk.noises;
            case 3:
                return Long.bitCount(world.rock.dug);
            case 4:
                return world.folk.hearsay;
            case 5:
                return world.folk.wells;
            case 6:
                return world.lawCount;
            case 7:
                return site.diary.kept;
            case 8:
                return reader.length;
            case 9:
                return refusals[-BAD_NUMBER];
            case 10:
                return refusals[-NO_SUCH];
            case 11:
                return refusals[-CANNOT_BE];
            case 12:
                return refusals[-NO_ROOM];
            case 13:
                return refusals[-UNREADABLE];
            case 14:
                return world.force;
            case 15:
                return world.term[DAY];
            case 16:
                return world.term[THUNDER];
            case 17:
                return world.term[MOOD];
            default:
                return NONE;
        }
    }

    public int status() {
        return latestRefusal;
    }

    /** Notes whether a call was REFUSED; what it tells is at least 0 if not. */
    private int settle(int told) {
        latestRefusal = told < 0 ? told : 0;
        if (told < 0 && -told < refusals.length) {
            refusals[-told]++;
        }
        return told;
    }

    /** Whether there is a WAY DOWN; then ways.days tells how many days it takes. */
    private boolean findWay(int shaft, int cell) {
        World world = site.world;
        if (!isWithin(shaft, world.crew.count) || !isWithin(cell, CELLS) || !world.mayBeDugOn(shaft)) {
            return false;
        }
        asker.turnTo(world, world.lawInForce());
        ways.weigh(world.rock, asker, shaft);
        ways.days = ways.daysTo(world.crew.cell[shaft], cell);
        return ways.days < Ways.FAR;
    }

    private static boolean isWithin(int number, int bound) {
        return number >= 0 && number < bound;
    }

    private static int stepsTo(int cell, int column) {
        return Math.abs(cell % WIDE - column) + cell / WIDE + 1;
    }

    private static int nearest(int value, int least, int most) {
        return Math.max(least, Math.min(most, value));
    }

    /** The CELLS. */
    private static final class Rock {
        private static final long FIRST_COLUMN = 0x0101010101L;
        private static final long LAST_COLUMN = 0x8080808080L;

        final int[] kind = new int[CELLS];
        final int[] hard = new int[CELLS];
        final int[] water = new int[CELLS];
        long dug;

        Rock() {
            Arrays.fill(hard, 3);
        }

        static boolean canBe(int what, int value) {
            switch (what) {
                case 0:
                    return value >= ROCK && value <= WATER;
                case 1:
                    return value >= 1 && value <= 9;
                case 2:
                    return value >= 0 && value <= 99;
                default:
                    return false;
            }
        }

        int[] rowOf(int what) {
            if (what == 0) {
                return kind;
            }
            return what == 1 ? hard : water;
        }

        boolean isDug(int cell) {
            return (dug >> cell & 1) != 0;
        }

        void mark(int cell) {
            dug |= 1L << cell;
        }

        void unmark(int cell) {
            dug &= ~(1L << cell);
        }

        boolean endsAWay(int cell) {
            return kind[cell] == SALT || kind[cell] == WATER;
        }

        long veinOf(int cell) {
            long wet = 0;
            for (int c = 0; c < CELLS; c++) {
                if (kind[c] == WATER) {
                    wet |= 1L << c;
                }
            }
            long vein = 1L << cell & wet;
            for (int n = 0; n < CELLS; n++) {
                long leftOf = (vein & ~FIRST_COLUMN) >> 1;
                long rightOf = (vein & ~LAST_COLUMN) << 1;
                long grown = (vein | leftOf | rightOf | vein << WIDE | vein >> WIDE) & wet;
                if (grown == vein) {
                    break;
                }
                vein = grown;
            }
            return vein;
        }

        int waterIn(long cells) {
            int sum = 0;
            for (int c = 0; c < CELLS; c++) {
                if ((cells >> c & 1) != 0) {
                    sum += water[c];
                }
            }
            return sum;
        }

        void copyFrom(Rock other) {
            System.arraycopy(other.kind, 0, kind, 0, CELLS);
            System.arraycopy(other.hard, 0, hard, 0, CELLS);
            System.arraycopy(other.water, 0, water, 0, CELLS);
            dug = other.dug;
        }
    }

    /** The SHAFTS. */
    private static final class Crew {
        final int[] cell = new int[SHAFTS];
        final int[] buckets = new int[SHAFTS];
        int count;

        void add(int inCell) {
            if (count < SHAFTS) {
                cell[count] = inCell;
                buckets[count] = 0;
                count++;
            }
        }

        int countIn(long cells) {
            int found = 0;
            for (int s = 0; s < count; s++) {
                if ((cells >> cell[s] & 1) != 0) {
                    found++;
                }
            }
            return found;
        }

        int allBuckets() {
            int sum = 0;
            for (int s = 0; s < count; s++) {
                sum += buckets[s];
            }
            return sum;
        }

        void copyFrom(Crew other) {
            System.arraycopy(other.cell, 0, cell, 0, SHAFTS);
            System.arraycopy(other.buckets, 0, buckets, 0, SHAFTS);
            count = other.count;
        }
    }

    /** The LISTENERS, the NOISES, and what is told: HEARSAY, the WELLS. */
    private static final class Folk {
        final int[] column = new int[LISTENERS];
        final int[] ear = new int[LISTENERS];
        int listeners;
        final int[] noiseColumn = new int[NOISES];
        final int[] noiseLoud = new int[NOISES];
        int noises;
        /** The NOISES that are HUSHED, as bits. */
        int hushed;
        final int[] hearsayColumn = new int[HEARSAY];
        final int[] hearsayLoud = new int[HEARSAY];
        int hearsay;
        final int[] sounds = new int[WELLS];
        final int[] wet = new int[WELLS];
        int wells;

        void addListener(int inColumn, int withEar) {
            if (listeners < LISTENERS) {
                column[listeners] = inColumn;
                ear[listeners] = withEar;
                listeners++;
            }
        }

        void addNoise(int inColumn, int soLoud) {
            if (noises < NOISES) {
                noiseColumn[noises] = inColumn;
                noiseLoud[noises] = soLoud;
                noises++;
            }
        }

        /** NOISE in a COLUMN if those in the bits were HUSHED, too. */
        int noiseIn(int inColumn, int hushedToo) {
            int silent = hushed | hushedToo;
            int sum = 0;
            for (int k = 0; k < noises; k++) {
                if ((silent >> k & 1) == 0) {
                    sum += Math.max(0, noiseLoud[k] - Math.abs(noiseColumn[k] - inColumn));
                }
            }
            return sum;
        }

        void addHearsay(int inColumn, int soLoud) {
            if (hearsay < HEARSAY) {
                hearsayColumn[hearsay] = inColumn;
                hearsayLoud[hearsay] = soLoud;
                hearsay++;
            }
        }

        void addWell(int withSounds, int isWet) {
            if (wells < WELLS) {
                sounds[wells] = withSounds;
                wet[wells] = isWet;
                wells++;
            }
        }

        /** A TONGUE as bits, NONE without. */
        int fewestSounds() {
            int best = NONE;
            for (int some = 0; some < SOUND_SETS; some++) {
                boolean fewer = best == NONE || Integer.bitCount(some) < Integer.bitCount(best);
                if (fewer && meanWater(some)) {
                    best = some;
                }
            }
            return best;
        }

        private boolean meanWater(int some) {
            for (int k = 0; k < wells; k++) {
                boolean hasAll = (some & ~sounds[k]) == 0;
                if (hasAll != (wet[k] == 1)) {
                    return false;
                }
            }
            return true;
        }

        void copyFrom(Folk other) {
            System.arraycopy(other.column, 0, column, 0, LISTENERS);
            System.arraycopy(other.ear, 0, ear, 0, LISTENERS);
            listeners = other.listeners;
            System.arraycopy(other.noiseColumn, 0, noiseColumn, 0, NOISES);
            System.arraycopy(other.noiseLoud, 0, noiseLoud, 0, NOISES);
            noises = other.noises;
            hushed = other.hushed;
            System.arraycopy(other.hearsayColumn, 0, hearsayColumn, 0, HEARSAY);
            System.arraycopy(other.hearsayLoud, 0, hearsayLoud, 0, HEARSAY);
            hearsay = other.hearsay;
            System.arraycopy(other.sounds, 0, sounds, 0, WELLS);
            System.arraycopy(other.wet, 0, wet, 0, WELLS);
            wells = other.wells;
        }
    }

    /** All that IMAGES keep. */
    private static final class World {
        final Rock rock = new Rock();
        final Crew crew = new Crew();
        final Folk folk = new Folk();
        final int[] term = {0, 2, 0};
        /** A Text is never changed once it stands here, so IMAGES may share it. */
        final Text[] laws = new Text[LAWS];
        int lawCount;
        int force = NONE;

        static boolean termCanBe(int what, int value) {
            switch (what) {
                case DAY:
                    return value >= 0 && value <= LAST_DAY;
                case THUNDER:
                    return value >= 0 && value <= 10;
                case MOOD:
                    return value >= 0 && value <= 9;
                default:
                    return false;
            }
        }

        /** Whether a LAW can be in FORCE: NONE can. */
        boolean hasLaw(int number) {
            return number >= NONE && number < lawCount;
        }

        Text lawOf(int number) {
            return number >= 0 && number < lawCount && number < LAWS ? laws[number] : null;
        }

        Text lawInForce() {
            return lawOf(force);
        }

        boolean mayBeDugOn(int shaft) {
            return !rock.endsAWay(crew.cell[shaft]);
        }

        /** What a SHAFT whose CELL this is HAS of its VEIN. */
        int shareOf(int cell) {
            long vein = rock.veinOf(cell);
            int sharers = crew.countIn(vein);
            return sharers == 0 ? 0 : rock.waterIn(vein) / sharers;
        }

        void copyFrom(World other) {
            rock.copyFrom(other.rock);
            crew.copyFrom(other.crew);
            folk.copyFrom(other.folk);
            System.arraycopy(other.term, 0, term, 0, term.length);
            for (int k = 0; k < LAWS; k++) {
                laws[k] = other.laws[k];
            }
            lawCount = other.lawCount;
            force = other.force;
        }
    }

    /**
     * A TEXT that was read: for each CLAUSE a head of five numbers (what it begins with, where its
     * first and second SUM and its TEST begin in the code, how many TIMES), and the code.
     */
    private static final class Text {
        static final int MOST_CLAUSES = 12;
        static final int MOST_CODE = 400;
        static final int HEAD = 5;
        static final int VERB = 0;
        static final int FIRST = 1;
        static final int SECOND = 2;
        static final int TEST = 3;
        static final int TIMES = 4;

        final int[] heads;
        final int[] code;
        int clauses;
        int length;

        Text(int mostClauses, int mostCode) {
            heads = new int[HEAD * Math.max(0, mostClauses)];
            code = new int[Math.max(0, mostCode)];
        }

        int headOf(int clause, int part) {
            int at = HEAD * clause + part;
            return at >= 0 && at < heads.length ? heads[at] : NONE;
        }

        void setHead(int clause, int part, int value) {
            int at = HEAD * clause + part;
            if (at >= 0 && at < heads.length) {
                heads[at] = value;
            }
        }

        /** A copy that has no more room than it needs. */
        Text trimmed() {
            Text copy = new Text(clauses, length);
            System.arraycopy(heads, 0, copy.heads, 0, copy.heads.length);
            System.arraycopy(code, 0, copy.code, 0, copy.code.length);
            copy.clauses = clauses;
            copy.length = length;
            return copy;
        }
    }

    /** The TAPE, and how a TEXT, a ROW on it is read. */
    private static final class Reader {
        /** The words of both languages; a word's number is its place here, by slots of eight. */
        private static final String WORDS = "says    loses   digs    gives   passes  if      or      and     not     cell    column  depth   kind    hard    water   shaft   day     mood    dig     by      haul    hush    lie     in      times   done    latest  at      buckets ";
        private static final int SLOT = 8;
        private static final int WORD_COUNT = 29;
        static final int SAYS = 0;
        static final int LOSES = 1;
        static final int DIGS = 2;
        static final int GIVES = 3;
        static final int PASSES = 4;
        static final int IF = 5;
        static final int OR = 6;
        static final int AND = 7;
        static final int NOT = 8;
        static final int CELL = 9;
        static final int COLUMN = 10;
        static final int DEPTH = 11;
        static final int KIND = 12;
        static final int HARD = 13;
        static final int WATER_LEFT = 14;
        static final int SHAFT = 15;
        static final int DAY_NOW = 16;
        static final int MOOD_NOW = 17;
        static final int DIG = 18;
        static final int BY = 19;
        static final int HAUL = 20;
        static final int HUSH = 21;
        static final int LIE = 22;
        static final int IN = 23;
        static final int TIMES = 24;
        static final int DONE = 25;
        static final int LATEST = 26;
        static final int AT = 27;
        static final int BUCKETS = 28;

        /** Tokens: a word's number, one of these two, SIGN and a byte, NUMBER and a value. */
        private static final int UNKNOWN = 30;
        private static final int FINISH = 31;
        private static final int SIGN = 100;
        private static final int NUMBER = 1000;
        private static final int MOST_NUMBER = 1000;
        private static final int MOST_PARTS = 50;
        private static final int MOST_BRACKETS = 8;
        private static final int MOST_TIMES = 20;

        private final int[] bytes = new int[TAPE];
        int length;
        private final int[] tokens = new int[TAPE + 1];
        private final int[] places = new int[TAPE + 1];
        private int tokenCount;
        private int now;
        private int parts;
        private boolean asOrders;
        /** FAULT of the TEXT that was read last. */
        int faultPlace = NONE;
        final Text draft = new Text(Text.MOST_CLAUSES, Text.MOST_CODE);

        void addFour(int number) {
            for (int shift = 24; shift >= 0; shift -= 8) {
                if (length < TAPE) {
                    bytes[length] = number >> shift & 255;
                    length++;
                }
            }
        }

        /** Puts a CELL as a ROW tells it; whether it did. */
        boolean tellCell(Rock rock, int cell) {
            int from = 3 * cell;
            if (cell < 0 || cell >= CELLS || from + 3 > length || rock.isDug(cell)) {
                return false;
            }
            int kind = bytes[from];
            int hard = bytes[from + 1];
            int water = bytes[from + 2];
            if (!Rock.canBe(0, kind) || !Rock.canBe(1, hard) || !Rock.canBe(2, water)) {
                return false;
            }
            rock.kind[cell] = kind;
            rock.hard[cell] = hard;
            rock.water[cell] = water;
            return true;
        }

        /** Whether the TAPE, which is empty then, is a TEXT: it is in draft; if not, faultPlace tells where. */
        boolean read(boolean ordersAreRead) {
            splitIntoTokens();
            asOrders = ordersAreRead;
            now = 0;
            parts = 0;
            draft.clauses = 0;
            draft.length = 0;
            boolean goesOn = true;
            boolean whole = false;
            for (int n = 0; n < Text.MOST_CLAUSES && goesOn && !whole; n++) {
                beginHead();
                goesOn = (asOrders ? readOrder() : readRule()) && readIf();
                if (goesOn) {
                    draft.clauses++;
                    whole = tokenNow() == FINISH;
                    goesOn = whole || take(SIGN + ';');
                }
            }
            faultPlace = whole ? NONE : placeNow();
            length = 0;
            return whole;
        }

        private int placeNow() {
            return now >= 0 && now < tokenCount ? places[now] : length;
        }

        private void splitIntoTokens() {
            tokenCount = 0;
            int from = 0;
            for (int n = 0; n < TAPE && from < length; n++) {
                int sign = bytes[from];
                int to = from + 1;
                if (sign >= 'a' && sign <= 'z') {
                    to = endOfRow(from, 'a', 'z');
                    addToken(wordIn(from, to), from);
                } else if (sign >= '0' && sign <= '9') {
                    to = endOfRow(from, '0', '9');
                    addToken(NUMBER + numberIn(from, to), from);
                } else if (sign != ' ') {
                    addToken(SIGN + sign, from);
                }
                from = to;
            }
            addToken(FINISH, length);
        }

        private void addToken(int token, int place) {
            if (tokenCount < tokens.length) {
                tokens[tokenCount] = token;
                places[tokenCount] = place;
                tokenCount++;
            }
        }

        private int endOfRow(int from, char least, char most) {
            int to = from;
            while (to < length && bytes[to] >= least && bytes[to] <= most) {
                to++;
            }
            return to;
        }

        private int numberIn(int from, int to) {
            int value = 0;
            for (int i = from; i < to; i++) {
                value = Math.min(MOST_NUMBER + 1, 10 * value + bytes[i] - '0');
            }
            return value;
        }

        private int wordIn(int from, int to) {
            if (to - from >= SLOT) {
                return UNKNOWN;
            }
            for (int word = 0; word < WORD_COUNT; word++) {
                if (isWord(word, from, to)) {
                    return word;
                }
            }
            return UNKNOWN;
        }

        private boolean isWord(int word, int from, int to) {
            int slot = SLOT * word;
            for (int i = from; i < to; i++) {
                if (WORDS.charAt(slot + i - from) != bytes[i]) {
                    return false;
                }
            }
            return WORDS.charAt(slot + to - from) == ' ';
        }

        private int tokenNow() {
            return now >= 0 && now < tokenCount ? tokens[now] : FINISH;
        }

        private boolean take(int token) {
            if (now < 0 || now >= tokenCount || tokens[now] != token) {
                return false;
            }
            now++;
            return true;
        }

        private void beginHead() {
            setHead(Text.VERB, NONE);
            setHead(Text.FIRST, NONE);
            setHead(Text.SECOND, NONE);
            setHead(Text.TEST, NONE);
            setHead(Text.TIMES, 1);
        }

        private void setHead(int part, int value) {
            draft.setHead(draft.clauses, part, value);
        }

        private boolean readRule() {
            int verb = tokenNow();
            if (verb < SAYS || verb > PASSES) {
                return false;
            }
            now++;
            setHead(Text.VERB, verb);
            return verb == PASSES || readSumOf(Text.FIRST);
        }

        private boolean readOrder() {
            int verb = tokenNow();
            if (verb != DIG && verb != HAUL && verb != HUSH && verb != LIE) {
                return false;
            }
            now++;
            setHead(Text.VERB, verb);
            if (!readSumOf(Text.FIRST)) {
                return false;
            }
            if (verb == DIG && !(take(BY) && readSumOf(Text.SECOND))) {
                return false;
            }
            if (verb == LIE && !(take(IN) && readSumOf(Text.SECOND))) {
                return false;
            }
            return !take(TIMES) || readTimes();
        }

        private boolean readTimes() {
            int times = tokenNow() - NUMBER;
            if (times < 1 || times > MOST_TIMES) {
                return false;
            }
            now++;
            setHead(Text.TIMES, times);
            return true;
        }

        private boolean readSumOf(int part) {
            setHead(part, draft.length);
            return readSum(0) && write(Asker.STOP, 0);
        }

        private boolean readIf() {
            if (!take(IF)) {
                return true;
            }
            setHead(Text.TEST, draft.length);
            return readTest(0) && write(Asker.STOP, 0);
        }

        private boolean readTest(int brackets) {
            int orAt = NONE;
            for (int n = 0; n < TAPE; n++) {
                int andAt = NONE;
                for (int m = 0; m < TAPE; m++) {
                    if (!readPlain(brackets)) {
                        return false;
                    }
                    aimHere(andAt);
                    if (!take(AND)) {
                        break;
                    }
                    andAt = draft.length;
                    if (!write(Asker.AND, 0)) {
                        return false;
                    }
                }
                aimHere(orAt);
                if (!take(OR)) {
                    return true;
                }
                orAt = draft.length;
                if (!write(Asker.OR, 0)) {
                    return false;
                }
            }
            return false;
        }

        private boolean readPlain(int brackets) {
            boolean turned = false;
            for (int n = 0; n < TAPE && take(NOT); n++) {
                turned = !turned;
            }
            if (tokenNow() == SIGN + '(') {
                if (!open(brackets) || !readTest(brackets + 1) || !take(SIGN + ')')) {
                    return false;
                }
            } else {
                if (!readSum(brackets)) {
                    return false;
                }
                int comparison = comparisonOf(tokenNow());
                if (comparison == NONE) {
                    return false;
                }
                now++;
                if (!readSum(brackets) || !write(comparison, 0)) {
                    return false;
                }
            }
            return !turned || write(Asker.NOT, 0);
        }

        private boolean readSum(int brackets) {
            int adding = NONE;
            for (int n = 0; n < TAPE; n++) {
                int timing = NONE;
                for (int m = 0; m < TAPE; m++) {
                    if (!readPart(brackets) || !write(timing, 0)) {
                        return false;
                    }
                    timing = timingOf(tokenNow());
                    if (timing == NONE) {
                        break;
                    }
                    now++;
                }
                if (!write(adding, 0)) {
                    return false;
                }
                adding = addingOf(tokenNow());
                if (adding == NONE) {
                    return true;
                }
                now++;
            }
            return false;
        }

        private boolean readPart(int brackets) {
            int token = tokenNow();
            if (token == SIGN + '[') {
                return open(brackets) && readSum(brackets + 1) && take(SIGN + ']');
            }
            boolean isNumber = token >= NUMBER && token <= NUMBER + MOST_NUMBER;
            int choices = asOrders ? choicesBehind(token) : 0;
            if (parts >= MOST_PARTS || !isNumber && choices == 0 && !isPlainWord(token)) {
                return false;
            }
            parts++;
            now++;
            if (isNumber) {
                return write(Asker.PUSH, token - NUMBER);
            }
            if (choices == 0) {
                return write(Asker.WORD + token, 0);
            }
            int which = tokenNow() - NUMBER;
            if (which < 0 || which >= choices) {
                return false;
            }
            now++;
            return write(token == COLUMN ? Asker.LISTENER_COLUMN : Asker.WORD + token, which);
        }

        private boolean open(int brackets) {
            if (brackets >= MOST_BRACKETS) {
                return false;
            }
            now++;
            return true;
        }

        private boolean isPlainWord(int token) {
            if (asOrders) {
                return token == DAY_NOW || token == DONE || token == LATEST;
            }
            return token >= CELL && token <= MOOD_NOW;
        }

        /** How many numbers may stand behind a word of ORDERS: 0, if none must. */
        private static int choicesBehind(int token) {
            if (token == COLUMN) {
                return LISTENERS;
            }
            return token == AT || token == BUCKETS ? SHAFTS : 0;
        }

        private static int comparisonOf(int token) {
            switch (token - SIGN) {
                case '<':
                    return Asker.LESS;
                case '>':
                    return Asker.MORE;
                case '=':
                    return Asker.SAME;
                default:
                    return NONE;
            }
        }

        private static int addingOf(int token) {
            switch (token - SIGN) {
                case '+':
                    return Asker.ADD;
                case '-':
                    return Asker.SUBTRACT;
                default:
                    return NONE;
            }
        }

        private static int timingOf(int token) {
            switch (token - SIGN) {
                case '*':
                    return Asker.MULTIPLY;
                case '/':
                    return Asker.DIVIDE;
                case '%':
                    return Asker.LEAVE;
                default:
                    return NONE;
            }
        }

        /** Whether there was room for it; NONE needs none. */
        private boolean write(int code, int with) {
            if (code == NONE) {
                return true;
            }
            if (draft.length >= draft.code.length) {
                return false;
            }
            draft.code[draft.length] = with << Asker.BITS | code;
            draft.length++;
            return true;
        }

        /** Lets an "and", "or" go on behind what was written so far, if what stands behind can't matter. */
        private void aimHere(int at) {
            if (at >= 0 && at < draft.length) {
                draft.code[at] |= draft.length << Asker.BITS;
            }
        }
    }

    /** Asks LAWS of CELLS, and reckons the SUMS and TESTS of both languages. */
    private static final class Asker {
        /** The code of a Text: one of these in the low six bits, a number above them. */
        static final int BITS = 6;
        static final int MASK = 63;
        static final int STOP = 0;
        static final int PUSH = 1;
        static final int ADD = 2;
        static final int SUBTRACT = 3;
        static final int MULTIPLY = 4;
        static final int DIVIDE = 5;
        static final int LEAVE = 6;
        static final int LESS = 7;
        static final int MORE = 8;
        static final int SAME = 9;
        static final int NOT = 10;
        static final int AND = 11;
        static final int OR = 12;
        static final int LISTENER_COLUMN = 13;
        /** From here on: a word that stands for a number. */
        static final int WORD = 20;

        private static final int STACK = 64;
        private static final long MOST = 1000000000L;
        private static final long BROKEN = MOST + 1;

        private final long[] stack = new long[STACK];
        private World world;
        private Text law;
        private int cell;
        private int shaft;
        private int kind;
        private int done;
        private int latest;
        /** The latest SUM, TEST (1: so, 0: not) that was not BROKEN. */
        private int value;

        /** The law may be null: then there is no CLAUSE. */
        void turnTo(World toWorld, Text toLaw) {
            world = toWorld;
            law = toLaw;
        }

        void turnToOrders(World toWorld, int doneSoFar, int latestTold) {
            world = toWorld;
            done = doneSoFar;
            latest = latestTold;
        }

        /** What water in a CELL SAYS; to the laws the CELL is of the kind told. */
        int saysOf(int ofCell, int asKind) {
            askOf(ofCell, NONE, asKind);
            return nearest(tells(Reader.SAYS, 20), 0, LOUDEST);
        }

        int losesOf(int ofCell, int asKind) {
            askOf(ofCell, NONE, asKind);
            return nearest(tells(Reader.LOSES, 2), 0, 9);
        }

        int digsOf(int byShaft, int ofCell) {
            askOf(ofCell, byShaft, world.rock.kind[ofCell]);
            return nearest(tells(Reader.DIGS, world.rock.hard[ofCell]), 1, 99);
        }

        int givesOf(int byShaft, int ofCell) {
            askOf(ofCell, byShaft, world.rock.kind[ofCell]);
            return Math.min(nearest(tells(Reader.GIVES, 5), 0, 99), world.rock.water[ofCell]);
        }

        boolean passesOf(int byShaft, int ofCell) {
            if (world.rock.kind[ofCell] != SAND) {
                return true;
            }
            askOf(ofCell, byShaft, SAND);
            return tells(Reader.PASSES, 0) == 1;
        }

        private void askOf(int ofCell, int byShaft, int asKind) {
            cell = ofCell;
            shaft = byShaft;
            kind = asKind;
        }

        /** What the last CLAUSE of this verb that HOLDS tells (1, if it has no SUM). */
        private int tells(int verb, int without) {
            if (law == null) {
                return without;
            }
            for (int clause = law.clauses - 1; clause >= 0; clause--) {
                if (law.headOf(clause, Text.VERB) != verb) {
                    continue;
                }
                int test = law.headOf(clause, Text.TEST);
                if (test != NONE && !(reckon(law, test) && value == 1)) {
                    continue;
                }
                int sum = law.headOf(clause, Text.FIRST);
                if (sum == NONE) {
                    return 1;
                }
                if (reckon(law, sum)) {
                    return value;
                }
            }
            return without;
        }

        int reckoned() {
            return value;
        }

        /** Whether a SUM, a TEST is not BROKEN: then reckoned() tells it. */
        boolean reckon(Text text, int start) {
            int[] code = text.code;
            int top = -1;
            int at = start;
            for (int n = 0; n < Text.MOST_CODE && at >= 0 && at < text.length; n++) {
                int doing = code[at] & MASK;
                int with = code[at] >> BITS;
                at++;
                if (doing == STOP) {
                    value = top == 0 ? (int) stack[0] : 0;
                    return top == 0;
                }
                if (doing == PUSH || doing >= LISTENER_COLUMN) {
                    top++;
                    if (top >= STACK) {
                        return false;
                    }
                    stack[top] = doing == PUSH ? with : wordValue(doing, with);
                } else if (doing >= NOT) {
                    if (top < 0) {
                        return false;
                    }
                    if (doing == NOT) {
                        stack[top] = 1 - stack[top];
                    } else if (stack[top] == (doing == OR ? 1 : 0)) {
                        at = with;
                    } else {
                        top--;
                    }
                } else {
                    if (top < 1) {
                        return false;
                    }
                    top--;
                    stack[top] = joined(doing, stack[top], stack[top + 1]);
                    if (stack[top] > MOST || stack[top] < -MOST) {
                        return false;
                    }
                }
            }
            return false;
        }

        private static long joined(int doing, long a, long b) {
            switch (doing) {
                case ADD:
                    return a + b;
                case SUBTRACT:
                    return a - b;
                case MULTIPLY:
                    return a * b;
                case DIVIDE:
                    return b == 0 ? BROKEN : a / b;
                case LEAVE:
                    return b == 0 ? BROKEN : a % b;
                case LESS:
                    return a < b ? 1 : 0;
                case MORE:
                    return a > b ? 1 : 0;
                case SAME:
                    return a == b ? 1 : 0;
                default:
                    return BROKEN;
            }
        }

        private int wordValue(int doing, int with) {
            switch (doing == LISTENER_COLUMN ? NONE : doing - WORD) {
                case NONE:
                    return with < world.folk.listeners ? world.folk.column[with] : NONE;
                case Reader.CELL:
                    return cell;
                case Reader.COLUMN:
                    return cell % WIDE;
                case Reader.DEPTH:
                    return cell / WIDE;
                case Reader.KIND:
                    return kind;
                case Reader.HARD:
                    return world.rock.hard[cell];
                case Reader.WATER_LEFT:
                    return world.rock.water[cell];
                case Reader.SHAFT:
                    return shaft;
                case Reader.DAY_NOW:
                    return world.term[DAY];
                case Reader.MOOD_NOW:
                    return world.term[MOOD];
                case Reader.DONE:
                    return done;
                case Reader.LATEST:
                    return latest;
                case Reader.AT:
                    return with < world.crew.count ? world.crew.cell[with] : NONE;
                case Reader.BUCKETS:
                    return with < world.crew.count ? world.crew.buckets[with] : NONE;
                default:
                    return 0;
            }
        }
    }

    /** The latest digs, hauls, hushes and lies: what each was, of whom, and what was ahead of it. */
    private static final class Diary {
        static final int ROOM = 16;
        static final int DUG = 0;
        static final int HAULED = 1;
        static final int HUSHED = 2;
        static final int LAIN = 3;

        final int[] deed = new int[ROOM];
        final int[] whose = new int[ROOM];
        final int[] before = new int[ROOM];
        final int[] bucketsBefore = new int[ROOM];
        final int[] dayBefore = new int[ROOM];
        int kept;
        /** Where the latest one stands: the rows are used in a ring. */
        int latest = ROOM - 1;

        void clear() {
            kept = 0;
        }

        void add(int whatWasDone, int byWhom, int cellWaterColumn, int buckets, int day) {
            latest = (latest + 1) % ROOM;
            deed[latest] = whatWasDone;
            whose[latest] = byWhom;
            before[latest] = cellWaterColumn;
            bucketsBefore[latest] = buckets;
            dayBefore[latest] = day;
            kept = Math.min(ROOM, kept + 1);
        }

        void dropLatest() {
            latest = (latest + ROOM - 1) % ROOM;
            kept = Math.max(0, kept - 1);
        }

        void copyFrom(Diary other) {
            System.arraycopy(other.deed, 0, deed, 0, ROOM);
            System.arraycopy(other.whose, 0, whose, 0, ROOM);
            System.arraycopy(other.before, 0, before, 0, ROOM);
            System.arraycopy(other.bucketsBefore, 0, bucketsBefore, 0, ROOM);
            System.arraycopy(other.dayBefore, 0, dayBefore, 0, ROOM);
            kept = other.kept;
            latest = other.latest;
        }
    }

    /** A World in which is dug, hauled, hushed, lain, and what can be undone there. */
    private static final class Site {
        private static final int DRAW_TIMES = 1103;
        private static final int DRAW_AND = 12345;
        private static final int DRAW_MODULO = 1000003;

        final World world = new World();
        final Diary diary = new Diary();
        private final Asker asker;
        /** How many of the latest ORDERS were run. */
        int done;
        /** What the latest dig, haul of those told. */
        private int latest;

        Site(Asker asker) {
            this.asker = asker;
        }

        void copyFrom(Site other) {
            world.copyFrom(other.world);
            diary.copyFrom(other.diary);
        }

        /** The CELL, or what it is REFUSED by. */
        int tryDig(int shaft, int way) {
            if (way < LEFT || way > RIGHT) {
                return BAD_NUMBER;
            }
            if (!isWithin(shaft, world.crew.count)) {
                return NO_SUCH;
            }
            int from = world.crew.cell[shaft];
            int to = neighbour(from, way);
            if (!world.mayBeDugOn(shaft) || to == NONE || world.rock.isDug(to)) {
                return CANNOT_BE;
            }
            asker.turnTo(world, world.lawInForce());
            int day = world.term[DAY];
            int later = day + asker.digsOf(shaft, to);
            if (later > LAST_DAY || !asker.passesOf(shaft, to)) {
                return CANNOT_BE;
            }
            diary.add(Diary.DUG, shaft, from, 0, day);
            world.term[DAY] = later;
            world.rock.mark(to);
            world.crew.cell[shaft] = to;
            return to;
        }

        private static int neighbour(int cell, int way) {
            int column = cell % WIDE;
            if (way == LEFT) {
                return column > 0 ? cell - 1 : NONE;
            }
            if (way == RIGHT) {
                return column < WIDE - 1 ? cell + 1 : NONE;
            }
            return cell + WIDE < CELLS ? cell + WIDE : NONE;
        }

        int tryHaul(int shaft) {
            if (!isWithin(shaft, world.crew.count)) {
                return NO_SUCH;
            }
            int cell = world.crew.cell[shaft];
            int day = world.term[DAY];
            if (world.rock.kind[cell] != WATER || day >= LAST_DAY) {
                return CANNOT_BE;
            }
            asker.turnTo(world, world.lawInForce());
            int given = asker.givesOf(shaft, cell);
            int buckets = world.crew.buckets[shaft];
            diary.add(Diary.HAULED, shaft, world.rock.water[cell], buckets, day);
            world.rock.water[cell] -= given;
            world.crew.buckets[shaft] = Math.min(MOST_BUCKETS, buckets + given);
            world.term[DAY] = day + 1;
            return given;
        }

        int tryHush(int noise) {
            Folk folk = world.folk;
            if (!isWithin(noise, folk.noises)) {
                return NO_SUCH;
            }
            if ((folk.hushed >> noise & 1) != 0) {
                return CANNOT_BE;
            }
            diary.add(Diary.HUSHED, noise, 0, 0, 0);
            folk.hushed |= 1 << noise;
            return folk.noiseIn(folk.noiseColumn[noise], 0);
        }

        int tryLie(int listener, int column) {
            if (!isWithin(column, WIDE)) {
                return BAD_NUMBER;
            }
            if (!isWithin(listener, world.folk.listeners)) {
                return NO_SUCH;
            }
            int was = world.folk.column[listener];
            diary.add(Diary.LAIN, listener, was, 0, 0);
            world.folk.column[listener] = column;
            return was;
        }

        /** Undoes the latest: which kind it was, or what that is REFUSED by. */
        int takeBack() {
            if (diary.kept == 0) {
                return CANNOT_BE;
            }
            int entry = diary.latest;
            int whose = diary.whose[entry];
            int deed = diary.deed[entry];
            diary.dropLatest();
            switch (deed) {
                case Diary.DUG:
                    world.rock.unmark(world.crew.cell[whose]);
                    world.crew.cell[whose] = diary.before[entry];
                    world.term[DAY] = diary.dayBefore[entry];
                    break;
                case Diary.HAULED:
                    world.rock.water[world.crew.cell[whose]] = diary.before[entry];
                    world.crew.buckets[whose] = diary.bucketsBefore[entry];
                    world.term[DAY] = diary.dayBefore[entry];
                    break;
                case Diary.HUSHED:
                    world.folk.hushed &= ~(1 << whose);
                    break;
                default:
                    world.folk.column[whose] = diary.before[entry];
                    break;
            }
            return deed;
        }

        /** Runs ORDERS up to the CLAUSE that can't be: which that is, NONE if all could be. */
        int runOrders(Text orders) {
            done = 0;
            latest = NONE;
            for (int clause = 0; clause < orders.clauses; clause++) {
                int times = orders.headOf(clause, Text.TIMES);
                int test = orders.headOf(clause, Text.TEST);
                for (int n = 0; n < times; n++) {
                    asker.turnToOrders(world, done, latest);
                    if (test != NONE && !(asker.reckon(orders, test) && asker.reckoned() == 1)) {
                        continue;
                    }
                    if (!runOrder(orders, clause)) {
                        return clause;
                    }
                    done++;
                }
            }
            return NONE;
        }

        private boolean runOrder(Text orders, int clause) {
            if (!asker.reckon(orders, orders.headOf(clause, Text.FIRST))) {
                return false;
            }
            int first = asker.reckoned();
            int verb = orders.headOf(clause, Text.VERB);
            if (verb == Reader.HUSH) {
                return tryHush(first) >= 0;
            }
            if (verb == Reader.HAUL) {
                latest = tryHaul(first);
                return latest >= 0;
            }
            if (!asker.reckon(orders, orders.headOf(clause, Text.SECOND))) {
                return false;
            }
            int second = asker.reckoned();
            if (verb == Reader.LIE) {
                return tryLie(first, second) >= 0;
            }
            latest = tryDig(first, second);
            return latest >= 0;
        }

        void runSeasons(int seed, int n) {
            int shafts = world.crew.count;
            if (shafts == 0) {
                return;
            }
            int s = seed;
            for (int k = 0; k < n; k++) {
                s = (s * DRAW_TIMES + DRAW_AND) % DRAW_MODULO;
                int shaft = s % shafts;
                s = (s * DRAW_TIMES + DRAW_AND) % DRAW_MODULO;
                int way = s % 3;
                boolean worked = tryHaul(shaft) >= 0 || tryDig(shaft, way) >= 0;
                if (!worked && world.term[DAY] < LAST_DAY) {
                    world.term[DAY]++;
                }
            }
        }
    }

    /** WAYS DOWN, GANGS, chances. */
    private static final class Ways {
        static final int FAR = 1000000;
        static final long CERTAIN = 1000000000000L;
        private static final int NO_CELL = 100;
        private static final int SETS = 64;

        /** In how many days the weighed SHAFT digs each CELL; 0: it can't. */
        private final int[] cost = new int[CELLS];
        private final boolean[] endsWay = new boolean[CELLS];
        /** The fewest days from each CELL on to the one that is looked for. */
        private final int[] left = new int[CELLS];
        final int[] path = new int[CELLS];
        int steps;
        int days;
        private final int[] told = new int[SHAFTS];
        private final int[] price = new int[SHAFTS * SHAFTS];
        /** By SHAFT and set of told CELLS: the fewest days, if it and those behind it dig them. */
        private final int[] fewest = new int[(SHAFTS + 1) * SETS];
        final int[] cellOfShaft = new int[SHAFTS];
        private final long[] chance = new long[MOST_DAYS_IN_TIME + 1];

        void weigh(Rock rock, Asker asker, int shaft) {
            for (int c = 0; c < CELLS; c++) {
                boolean open = !rock.isDug(c) && asker.passesOf(shaft, c);
                cost[c] = open ? asker.digsOf(shaft, c) : 0;
                endsWay[c] = rock.endsAWay(c);
            }
        }

        /** The fewest days of the weighed SHAFT: from the lowest depth up, each depth swept both ways. */
        int daysTo(int from, int target) {
            for (int z = DEEP - 1; z >= 0; z--) {
                for (int c = z * WIDE; c < z * WIDE + WIDE; c++) {
                    left[c] = c == target ? 0 : daysBy(c + WIDE, target);
                }
                for (int c = z * WIDE + 1; c < z * WIDE + WIDE; c++) {
                    left[c] = Math.min(left[c], daysBy(c - 1, target));
                }
                for (int c = z * WIDE + WIDE - 2; c >= z * WIDE; c--) {
                    left[c] = Math.min(left[c], daysBy(c + 1, target));
                }
            }
            return left[from];
        }

        private int daysBy(int cell, int target) {
            if (cell < 0 || cell >= CELLS || cost[cell] == 0 || left[cell] >= FAR) {
                return FAR;
            }
            return endsWay[cell] && cell != target ? FAR : cost[cell] + left[cell];
        }

        /** Behind daysTo(): the CELLS of the quickest WAY; left, right, down are from the lowest CELL on. */
        void walk(int from, int target) {
            steps = 0;
            int cell = from;
            for (int n = 0; n < CELLS && cell != target; n++) {
                int column = cell % WIDE;
                if (column > 0 && daysBy(cell - 1, target) == left[cell]) {
                    cell = cell - 1;
                } else if (column < WIDE - 1 && daysBy(cell + 1, target) == left[cell]) {
                    cell = cell + 1;
                } else if (cell + WIDE < CELLS) {
                    cell = cell + WIDE;
                }
                path[steps] = cell;
                steps++;
            }
        }

        /** GANGS: whether they can be; then days and cellOfShaft tell them. */
        boolean share(World world, Asker asker, long cells) {
            int count = 0;
            for (int c = 0; c < CELLS && count < SHAFTS; c++) {
                if ((cells >> c & 1) != 0) {
                    told[count] = c;
                    count++;
                }
            }
            priceAll(world, asker, count);
            int shafts = world.crew.count;
            int all = (1 << count) - 1;
            for (int set = 0; set <= all; set++) {
                fewest[shafts * SETS + set] = set == 0 ? 0 : FAR;
            }
            for (int s = shafts - 1; s >= 0; s--) {
                for (int set = 0; set <= all; set++) {
                    fewest[s * SETS + set] = fewestFrom(s, set, count);
                }
            }
            days = fewest[all];
            if (days >= FAR) {
                return false;
            }
            fillRow(shafts, count);
            return true;
        }

        private void priceAll(World world, Asker asker, int count) {
            for (int s = 0; s < world.crew.count; s++) {
                boolean able = world.mayBeDugOn(s);
                if (able && count > 0) {
                    weigh(world.rock, asker, s);
                }
                for (int k = 0; k < count; k++) {
                    price[s * SHAFTS + k] = able ? daysTo(world.crew.cell[s], told[k]) : FAR;
                }
            }
        }

        private int fewestFrom(int shaft, int set, int count) {
            int least = fewest[(shaft + 1) * SETS + set];
            for (int k = 0; k < count; k++) {
                if ((set >> k & 1) != 0) {
                    least = Math.min(least, daysWith(shaft, set, k));
                }
            }
            return least;
        }

        private int daysWith(int shaft, int set, int k) {
            return Math.min(FAR, price[shaft * SHAFTS + k] + fewest[(shaft + 1) * SETS + (set ^ 1 << k)]);
        }

        private void fillRow(int shafts, int count) {
            int set = (1 << count) - 1;
            for (int s = 0; s < shafts; s++) {
                int chosen = NONE;
                for (int k = 0; k < count && chosen == NONE; k++) {
                    if ((set >> k & 1) != 0 && daysWith(s, set, k) == fewest[s * SETS + set]) {
                        chosen = k;
                    }
                }
                cellOfShaft[s] = chosen == NONE ? NO_CELL : told[chosen];
                set = chosen == NONE ? set : set ^ 1 << chosen;
            }
        }

        /** The chance that days of digging are done within n, when in lost of ten a day is lost. */
        long chanceIn(int n, int lost) {
            if (days > n || n >= chance.length) {
                return 0;
            }
            Arrays.fill(chance, 0);
            chance[0] = CERTAIN;
            for (int day = 0; day < n; day++) {
                for (int k = Math.min(days - 1, day); k >= 0; k--) {
                    chance[k + 1] += chance[k] * (10 - lost) / 10;
                    chance[k] = chance[k] * lost / 10;
                }
            }
            return chance[days];
        }
    }

    /** Who hears what, and where one spring more may be. */
    private static final class Ears {
        private final Asker asker;
        /** What each CELL SAYS and LOSES, as it was measured last. */
        private final int[] said = new int[CELLS];
        private final int[] lost = new int[CELLS];
        private final int[] alike = new int[LOUDEST + 1];

        Ears(Asker asker) {
            this.asker = asker;
        }

        /** Measures all CELLS of water by a LAW. */
        void measure(World world, Text law) {
            asker.turnTo(world, law);
            for (int c = 0; c < CELLS; c++) {
                if (world.rock.kind[c] == WATER) {
                    measureCell(c);
                }
            }
        }

        private void measureCell(int cell) {
            said[cell] = asker.saysOf(cell, WATER);
            lost[cell] = asker.losesOf(cell, WATER);
        }

        private int loudness(int cell, int column) {
            return said[cell] - stepsTo(cell, column) * lost[cell];
        }

        long cellsHeardBy(World world, int listener) {
            int column = world.folk.column[listener];
            int noise = world.folk.noiseIn(column, 0);
            long heard = 0;
            for (int c = 0; c < CELLS; c++) {
                if (world.rock.kind[c] == WATER && loudness(c, column) + world.folk.ear[listener] > noise) {
                    heard |= 1L << c;
                }
            }
            return heard;
        }

        /** QUIET as bits, NONE if it can't be. */
        int fewestToHush(World world, int listeners, int cell) {
            measureCell(cell);
            int best = NONE;
            for (int some = 0; some < 1 << world.folk.noises; some++) {
                boolean fewer = best == NONE || Integer.bitCount(some) < Integer.bitCount(best);
                boolean open = (some & world.folk.hushed) == 0;
                if (fewer && open && allHear(world, listeners, cell, some)) {
                    best = some;
                }
            }
            return best;
        }

        private boolean allHear(World world, int listeners, int cell, int hushedToo) {
            Folk folk = world.folk;
            for (int k = 0; k < folk.listeners; k++) {
                int column = folk.column[k];
                boolean told = (listeners >> k & 1) != 0;
                if (told && loudness(cell, column) + folk.ear[k] <= folk.noiseIn(column, hushedToo)) {
                    return false;
                }
            }
            return true;
        }

        long hiddenCells(World world) {
            asker.turnTo(world, world.lawInForce());
            long hidden = 0;
            for (int c = 0; c < CELLS; c++) {
                if (world.rock.kind[c] != WATER && !world.rock.isDug(c)) {
                    measureCell(c);
                    if (isAsHeard(world.folk, c)) {
                        hidden |= 1L << c;
                    }
                }
            }
            return hidden;
        }

        private boolean isAsHeard(Folk folk, int cell) {
            for (int k = 0; k < folk.hearsay; k++) {
                if (Math.max(0, loudness(cell, folk.hearsayColumn[k])) != folk.hearsayLoud[k]) {
                    return false;
                }
            }
            return true;
        }

        /** Of the CELLS hiddenCells() told: how many at most are alike LOUD in a COLUMN. */
        int mostAlike(long hidden, int column) {
            Arrays.fill(alike, 0);
            int most = 0;
            for (int c = 0; c < CELLS; c++) {
                if ((hidden >> c & 1) != 0) {
                    int loudness = nearest(loudness(c, column), 0, LOUDEST);
                    alike[loudness]++;
                    most = Math.max(most, alike[loudness]);
                }
            }
            return most;
        }
    }
}
