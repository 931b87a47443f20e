import java.util.Arrays;

/** Places, bridges that open to songs, and singers who cross them; README.md tells how to use it. */
public final class SongToBridge {
    public static final int NONE = -1, UNKNOWN = -101, OUTSIDE = -102, STATE = -103, FULL = -104;

    private static final int PLACES = 6;
    private static final int VERSES = 6;
    private static final int ALL_VERSES = (1 << VERSES) - 1;
    private static final int ALL_PLACES = (1 << PLACES) - 1;
    private static final int MOST_BRIDGES = 9;
    private static final int MOST_SINGERS = 5;
    private static final int LONGEST_SONG = 5;
    private static final int MOST_HEARD = 10;
    private static final int MOST_BREATH = 30;
    private static final int MOST_MEMORY = 6;
    private static final int MOST_PURSE = 99;
    private static final int MOST_FEE = 99;
    private static final int MOST_TURNS = 60;

    private static final int PLAIN = 0;
    private static final int DEAF = 1;
    private static final int ECHO = 2;
    private static final int WORN = 3;

    private final Page page = new Page();
    private final Keeper[] keepers = {new Keeper(), new Deaf(), new Echo(), new Worn()};
    private final World world = new World(keepers[PLAIN]);
    private final World kept = new World(keepers[PLAIN]);
    private boolean hasImage = false;
    private final Ways ways = new Ways(world);
    private final Wanderer wanderer = new Wanderer(world);

    public SongToBridge() {
    }

    // ---- bridges

    public int letters(long w) {
        int more = Page.lettersIn(w);
        if (more < 0) {
            return OUTSIDE;
        }
        if (page.size + more > Page.MOST_LETTERS) {
            return FULL;
        }
        page.append(w, more);
        return page.size;
    }

    public int blank() {
        int had = page.size;
        page.size = 0;
        return had;
    }

    public int fault() {
        return page.firstFault();
    }

    public int bridge() {
        if (!page.isBridge()) {
            return STATE;
        }
        if (world.bridgeCount >= MOST_BRIDGES) {
            return FULL;
        }
        int number = world.bridgeCount;
        world.bridges[number].readFrom(page, keepers[page.kindTold()]);
        world.bridgeCount = number + 1;
        page.size = 0;
        return number;
    }

    public int about(int bridge, int what) {
        if (!world.hasBridge(bridge)) {
            return UNKNOWN;
        }
        if (what < 0 || what > 4 + LONGEST_SONG) {
            return OUTSIDE;
        }
        return world.bridges[bridge].property(what);
    }

    public int as(int bridge, int kind) {
        if (!world.hasBridge(bridge)) {
            return UNKNOWN;
        }
        if (kind < PLAIN || kind > WORN) {
            return OUTSIDE;
        }
        return isOfKind(world.bridges[bridge].keeper, kind) ? bridge : NONE;
    }

    public int change(int bridge, int i, int verse) {
        if (!world.hasBridge(bridge) || !isVerse(verse)) {
            return UNKNOWN;
        }
        int was = world.bridges[bridge].verseAt(i);
        if (was == NONE) {
            return UNKNOWN;
        }
        world.bridges[bridge].setVerse(i, verse);
        return was;
    }

    public int alike(int bridge) {
        return world.hasBridge(bridge) ? world.leastAlike(bridge) : UNKNOWN;
    }

    // ---- singers

    public int singer(int place, int verses, int breath, int memory, int purse) {
        if (!isPlace(place)) {
            return UNKNOWN;
        }
        boolean asTold = verses >= 0 && verses <= ALL_VERSES && breath >= 0 && breath <= MOST_BREATH
            && memory >= 1 && memory <= MOST_MEMORY && purse >= 0 && purse <= MOST_PURSE;
        if (!asTold) {
            return OUTSIDE;
        }
        if (world.singerCount >= MOST_SINGERS) {
            return FULL;
        }
        int number = world.singerCount;
        world.singers[number].begin(place, verses, breath, memory, purse);
        world.singerCount = number + 1;
        return number;
    }

    public int told(int singer, int what) {
        if (!world.hasSinger(singer)) {
            return UNKNOWN;
        }
        if (what < 0 || what > 6) {
            return OUTSIDE;
        }
        return world.singers[singer].property(what);
    }

    public int teach(int place, int verse, int fee) {
        if (!isPlace(place) || !isVerse(verse)) {
            return UNKNOWN;
        }
        if (fee < NONE || fee > MOST_FEE) {
            return OUTSIDE;
        }
        int was = world.fees[place][verse];
        world.fees[place][verse] = fee;
        return was;
    }

    public int may(int singer, int bridge) {
        if (!world.hasSinger(singer) || !world.hasBridge(bridge)) {
            return UNKNOWN;
        }
        Singer one = world.singers[singer];
        Bridge over = world.bridges[bridge];
        if (!over.opensTo(one.verses)) {
            return 0;
        }
        return over.isInReach(one.place, one.breath) ? 1 : 2;
    }

    public int cross(int singer, int bridge) {
        int answer = may(singer, bridge);
        if (answer == UNKNOWN) {
            return UNKNOWN;
        }
        if (answer != 1) {
            return STATE;
        }
        Singer one = world.singers[singer];
        one.goOver(world.bridges[bridge]);
        return one.place;
    }

    public int learn(int singer, int verse) {
        if (!world.hasSinger(singer) || !isVerse(verse)) {
            return UNKNOWN;
        }
        Singer one = world.singers[singer];
        int fee = world.fees[one.place][verse];
        if (one.knows(verse) || fee == NONE || fee > one.purse) {
            return STATE;
        }
        one.buy(verse, fee);
        world.fees[one.place][verse] = Math.min(fee + 1, MOST_FEE);
        return one.purse;
    }

    public int night() {
        int forgotten = 0;
        for (int s = 0; s < world.singerCount; s++) {
            if (world.singers[s].sleep()) {
                forgotten++;
            }
        }
        return forgotten;
    }

    // ---- ways

    public int home(int singer, int place, int what) {
        if (!world.hasSinger(singer) || !isPlace(place)) {
            return UNKNOWN;
        }
        if (what < 0 || what > 1) {
            return OUTSIDE;
        }
        Singer one = world.singers[singer];
        return what == 0 ? ways.homeBreath(one, place) : ways.homeBridge(one, place);
    }

    public int reach(int singer) {
        if (!world.hasSinger(singer)) {
            return UNKNOWN;
        }
        Singer one = world.singers[singer];
        return ways.placesInBreath(one, one.verses);
    }

    public int first(int singer) {
        return world.hasSinger(singer) ? ways.verseToLearn(world.singers[singer]) : UNKNOWN;
    }

    public int cheapest(int singer, int place, int what) {
        if (!world.hasSinger(singer) || !isPlace(place)) {
            return UNKNOWN;
        }
        if (what < 0 || what > 1) {
            return OUTSIDE;
        }
        ways.findLessons(world.singers[singer], place);
        return what == 0 ? ways.lessonFees : ways.lessonVerses;
    }

    public int choir(int a, int b, int what) {
        if (!isPlace(a) || !isPlace(b)) {
            return UNKNOWN;
        }
        if (what < 0 || what > 1) {
            return OUTSIDE;
        }
        int choir = ways.leastChoir(a, b);
        return what == 0 ? choirSize(choir) : choir;
    }

    // ---- at midnight

    public int heard(int bridge) {
        if (!world.hasBridge(bridge)) {
            return UNKNOWN;
        }
        if (world.heardCount >= MOST_HEARD) {
            return FULL;
        }
        world.heard[world.heardCount] = bridge;
        world.heardCount++;
        return world.heardCount;
    }

    public int hush() {
        int were = world.heardCount;
        world.heardCount = 0;
        return were;
    }

    public int who() {
        return world.isHeardOneWay() ? world.singersOfHeard() : 0;
    }

    public int wander(int singer, int turns, int seed, int what) {
        if (!world.hasSinger(singer)) {
            return UNKNOWN;
        }
        if (turns < 1 || turns > MOST_TURNS || seed < 0 || what < 0 || what > 3) {
            return OUTSIDE;
        }
        wanderer.begin(world.singers[singer], seed);
        for (int turn = 0; turn < turns; turn++) {
            wanderer.takeTurn();
        }
        return wanderer.property(what);
    }

    // ---- what is told of all

    public int image() {
        kept.takeOver(world);
        hasImage = true;
        return world.singerCount;
    }

    public int restore() {
        if (!hasImage) {
            return STATE;
        }
        world.takeOver(kept);
        return world.singerCount;
    }

    public int count(int what) {
        switch (what) {
            case 0:
                return world.bridgeCount;
            case 1:
                return world.singerCount;
            case 2:
                return world.feesTold();
            case 3:
                return world.heardCount;
            case 4:
                return page.size;
            default:
                return OUTSIDE;
        }
    }

    public long digest() {
        long h = mixBridges(599);
        h = mixSingers(h);
        for (int place = 0; place < PLACES; place++) {
            h = mixRow(h, world.fees[place], VERSES);
        }
        h = mixRow(h, world.heard, world.heardCount);
        h = mix(h, who());
        int choir = ways.leastChoir(0, PLACES - 1);
        h = mix(h, choirSize(choir));
        h = mix(h, choir);
        h = mixRow(h, page.letters, page.size);
        for (int what = 0; what <= 4; what++) {
            h = mix(h, count(what));
        }
        return h;
    }

    private long mixBridges(long before) {
        long h = before;
        for (int b = 0; b < world.bridgeCount; b++) {
            for (int what = 0; what <= 4 + LONGEST_SONG; what++) {
                h = mix(h, world.bridges[b].property(what));
            }
            h = mix(h, world.leastAlike(b));
        }
        return h;
    }

    private long mixSingers(long before) {
        long h = before;
        for (int s = 0; s < world.singerCount; s++) {
            Singer one = world.singers[s];
            for (int what = 0; what <= 6; what++) {
                h = mix(h, one.property(what));
            }
            h = mix(h, ways.placesInBreath(one, one.verses));
            h = mix(h, ways.verseToLearn(one));
            ways.findLessons(one, PLACES - 1);
            h = mix(h, ways.lessonFees);
            h = mix(h, ways.lessonVerses);
        }
        return h;
    }

    private static long mixRow(long before, int[] row, int size) {
        long h = before;
        for (int i = 0; i < size && i < row.length; i++) {
            h = mix(h, row[i]);
        }
        return h;
    }

    private static long mix(long h, int number) {
        return 31 * h + number;
    }

    private static int choirSize(int choir) {
        return choir == NONE ? NONE : Integer.bitCount(choir);
    }

    private static boolean isPlace(int number) {
        return number >= 0 && number < PLACES;
    }

    private static boolean isVerse(int number) {
        return number >= 0 && number < VERSES;
    }

    private static boolean isOfKind(Keeper keeper, int kind) {
        switch (kind) {
            case DEAF:
                return keeper instanceof Deaf;
            case ECHO:
                return keeper instanceof Echo;
            case WORN:
                return keeper instanceof Worn;
            default:
                return true;
        }
    }

    /** The letters that are told bit by bit until they are read as a bridge. */
    private static final class Page {
        static final int MOST_LETTERS = 16;
        static final int LETTERS_A_WORD = 8;
        static final int HIGHEST_CODE = 126;

        final int[] letters = new int[MOST_LETTERS];
        int size = 0;

        static int codeAt(long w, int i) {
            return (int) ((w >>> (8 * i)) & 255);
        }

        /** How many letters w tells; NONE if it is not as told. */
        static int lettersIn(long w) {
            int told = 0;
            for (int i = 0; i < LETTERS_A_WORD; i++) {
                int code = codeAt(w, i);
                boolean behindZero = told < i;
                if (code > HIGHEST_CODE || (behindZero && code != 0)) {
                    return NONE;
                }
                if (code != 0) {
                    told++;
                }
            }
            return told;
        }

        void append(long w, int more) {
            for (int i = 0; i < more && size < MOST_LETTERS; i++) {
                letters[size] = codeAt(w, i);
                size++;
            }
        }

        int firstFault() {
            for (int i = 0; i < size; i++) {
                if (!fitsAt(i)) {
                    return i;
                }
            }
            return size;
        }

        boolean isBridge() {
            return size > songStart() && firstFault() == size;
        }

        private boolean fitsAt(int i) {
            int letter = letters[i];
            if (i < 2) {
                boolean isDigit = letter >= '0' && letter < '0' + PLACES;
                return isDigit && (i == 0 || letter != letters[0]);
            }
            if (i < songStart()) {
                return true;
            }
            return letter >= 'a' && letter < 'a' + VERSES && i < songStart() + LONGEST_SONG;
        }

        int songStart() {
            return kindTold() == PLAIN ? 2 : 3;
        }

        int kindTold() {
            if (size < 3) {
                return PLAIN;
            }
            switch (letters[2]) {
                case '?':
                    return DEAF;
                case '!':
                    return ECHO;
                case '~':
                    return WORN;
                default:
                    return PLAIN;
            }
        }
    }

    /** Keeps the bridges without a sign; the keepers of the other kinds hear or count otherwise. */
    private static class Keeper {
        int kindNumber() {
            return PLAIN;
        }

        /** From which verse of a song on it looks at what one knows. */
        int firstHeard() {
            return 0;
        }

        boolean isContent(int lacking, int verses) {
            return lacking == 0;
        }

        int lengthOf(int songSize, int songBits) {
            return songSize;
        }
    }

    private static class Deaf extends Keeper {
        int kindNumber() {
            return DEAF;
        }

        boolean isContent(int lacking, int verses) {
            return lacking <= 1 && verses != 0;
        }
    }

    private static final class Worn extends Deaf {
        int kindNumber() {
            return WORN;
        }

        int firstHeard() {
            return 1;
        }
    }

    private static final class Echo extends Keeper {
        int kindNumber() {
            return ECHO;
        }

        int lengthOf(int songSize, int songBits) {
            return Integer.bitCount(songBits);
        }
    }

    private static final class Bridge {
        Keeper keeper;
        int from = 0;
        int to = 1;
        int size = 0;
        final int[] song = new int[LONGEST_SONG];
        /** Kept beside the song, as each way asks for it again and again. */
        int length = 0;

        Bridge(Keeper atFirst) {
            keeper = atFirst;
        }

        void readFrom(Page page, Keeper itsKeeper) {
            keeper = itsKeeper;
            from = page.letters[0] - '0';
            to = page.letters[1] - '0';
            size = 0;
            for (int i = page.songStart(); i < page.size && size < LONGEST_SONG; i++) {
                song[size] = page.letters[i] - 'a';
                size++;
            }
            length = keeper.lengthOf(size, verseBits());
        }

        void takeOver(Bridge other) {
            keeper = other.keeper;
            from = other.from;
            to = other.to;
            size = other.size;
            System.arraycopy(other.song, 0, song, 0, LONGEST_SONG);
            length = other.length;
        }

        int property(int what) {
            switch (what) {
                case 0:
                    return keeper.kindNumber();
                case 1:
                    return from;
                case 2:
                    return to;
                case 3:
                    return size;
                case 4:
                    return length;
                default:
                    return verseAt(what - 5);
            }
        }

        int verseAt(int i) {
            return i >= 0 && i < size ? song[i] : NONE;
        }

        void setVerse(int i, int verse) {
            if (i >= 0 && i < size) {
                song[i] = verse;
                length = keeper.lengthOf(size, verseBits());
            }
        }

        int verseBits() {
            int bits = 0;
            for (int i = 0; i < size; i++) {
                bits |= 1 << song[i];
            }
            return bits;
        }

        boolean opensTo(int verses) {
            int lacking = 0;
            for (int i = keeper.firstHeard(); i < size; i++) {
                if ((verses >> song[i] & 1) == 0) {
                    lacking++;
                }
            }
            return keeper.isContent(lacking, verses);
        }

        boolean hasSameSong(Bridge other) {
            if (size != other.size) {
                return false;
            }
            for (int i = 0; i < size; i++) {
                if (song[i] != other.song[i]) {
                    return false;
                }
            }
            return true;
        }

        boolean isInReach(int place, int breath) {
            return (place == from || place == to) && length <= breath;
        }

        int endBits() {
            return 1 << from | 1 << to;
        }

        int otherEnd(int place) {
            return place == from ? to : from;
        }
    }

    private static final class Singer {
        int place = 0;
        int verses = 0;
        int breath = 0;
        int breathOfDay = 0;
        int memory = 1;
        int purse = 0;
        /** Counts what was done, so that of two verses the one used earlier can be told. */
        int deeds = 0;
        /** By which deed each verse was used last; 0: never. */
        final int[] lastUse = new int[VERSES];

        void begin(int itsPlace, int itsVerses, int itsBreath, int itsMemory, int itsPurse) {
            place = itsPlace;
            verses = itsVerses;
            breath = itsBreath;
            breathOfDay = itsBreath;
            memory = itsMemory;
            purse = itsPurse;
            deeds = 0;
            Arrays.fill(lastUse, 0);
        }

        void takeOver(Singer other) {
            place = other.place;
            verses = other.verses;
            breath = other.breath;
            breathOfDay = other.breathOfDay;
            memory = other.memory;
            purse = other.purse;
            deeds = other.deeds;
            System.arraycopy(other.lastUse, 0, lastUse, 0, VERSES);
        }

        int property(int what) {
            switch (what) {
                case 0:
                    return place;
                case 1:
                    return verses;
                case 2:
                    return breath;
                case 3:
                    return breathOfDay;
                case 4:
                    return memory;
                case 5:
                    return purse;
                default:
                    return verseToForget();
            }
        }

        boolean knows(int verse) {
            return (verses >> verse & 1) != 0;
        }

        int verseToForget() {
            int found = NONE;
            int foundUse = 0;
            for (int v = 0; v < VERSES; v++) {
                if (knows(v) && (found == NONE || lastUse[v] < foundUse)) {
                    found = v;
                    foundUse = lastUse[v];
                }
            }
            return found;
        }

        void goOver(Bridge bridge) {
            place = bridge.otherEnd(place);
            breath -= bridge.length;
            useKnown(bridge.verseBits());
        }

        void buy(int verse, int fee) {
            purse -= fee;
            verses |= 1 << verse;
            useKnown(1 << verse);
        }

        private void useKnown(int bits) {
            deeds++;
            for (int v = 0; v < VERSES; v++) {
                if ((bits & verses & 1 << v) != 0) {
                    lastUse[v] = deeds;
                }
            }
        }

        /** Whether a verse was forgotten. */
        boolean sleep() {
            breath = breathOfDay;
            if (Integer.bitCount(verses) <= memory) {
                return false;
            }
            verses &= ~(1 << verseToForget());
            return true;
        }
    }

    /** All that an image keeps. Bridges and singers stand ready from the start, so that no call makes any. */
    private static final class World {
        final Bridge[] bridges = new Bridge[MOST_BRIDGES];
        int bridgeCount = 0;
        final Singer[] singers = new Singer[MOST_SINGERS];
        int singerCount = 0;
        final int[][] fees = new int[PLACES][VERSES];
        final int[] heard = new int[MOST_HEARD];
        int heardCount = 0;

        World(Keeper atFirst) {
            for (int b = 0; b < MOST_BRIDGES; b++) {
                bridges[b] = new Bridge(atFirst);
            }
            for (int s = 0; s < MOST_SINGERS; s++) {
                singers[s] = new Singer();
            }
            for (int place = 0; place < PLACES; place++) {
                Arrays.fill(fees[place], NONE);
            }
        }

        void takeOver(World other) {
            bridgeCount = other.bridgeCount;
            for (int b = 0; b < bridgeCount; b++) {
                bridges[b].takeOver(other.bridges[b]);
            }
            singerCount = other.singerCount;
            for (int s = 0; s < singerCount; s++) {
                singers[s].takeOver(other.singers[s]);
            }
            for (int place = 0; place < PLACES; place++) {
                System.arraycopy(other.fees[place], 0, fees[place], 0, VERSES);
            }
            heardCount = other.heardCount;
            System.arraycopy(other.heard, 0, heard, 0, MOST_HEARD);
        }

        boolean hasBridge(int number) {
            return number >= 0 && number < bridgeCount;
        }

        boolean hasSinger(int number) {
            return number >= 0 && number < singerCount;
        }

        int leastAlike(int bridge) {
            for (int b = 0; b < bridgeCount; b++) {
                if (b != bridge && bridges[b].hasSameSong(bridges[bridge])) {
                    return b;
                }
            }
            return NONE;
        }

        int feesTold() {
            int told = 0;
            for (int place = 0; place < PLACES; place++) {
                for (int verse = 0; verse < VERSES; verse++) {
                    if (fees[place][verse] != NONE) {
                        told++;
                    }
                }
            }
            return told;
        }

        boolean isHeardOneWay() {
            int standing = ALL_PLACES;
            for (int i = 0; i < heardCount; i++) {
                Bridge over = bridges[heard[i]];
                int next = 0;
                if ((standing >> over.from & 1) != 0) {
                    next |= 1 << over.to;
                }
                if ((standing >> over.to & 1) != 0) {
                    next |= 1 << over.from;
                }
                standing = next;
            }
            return standing != 0;
        }

        int singersOfHeard() {
            int found = 0;
            for (int s = 0; s < singerCount; s++) {
                if (couldBeHeard(singers[s])) {
                    found |= 1 << s;
                }
            }
            return found;
        }

        private boolean couldBeHeard(Singer one) {
            int needed = 0;
            for (int i = 0; i < heardCount; i++) {
                Bridge over = bridges[heard[i]];
                if (!over.opensTo(one.verses)) {
                    return false;
                }
                needed += over.length;
            }
            return needed <= one.breathOfDay;
        }

        /** The bridges that open to these verses, as bits. */
        int openTo(int verses) {
            int open = 0;
            for (int b = 0; b < bridgeCount; b++) {
                if (bridges[b].opensTo(verses)) {
                    open |= 1 << b;
                }
            }
            return open;
        }

        /** The places to which one can come with these verses, were breath no matter, as bits. */
        int placesOpen(int place, int verses) {
            int open = openTo(verses);
            int places = 1 << place;
            for (int round = 1; round < PLACES; round++) {
                int before = places;
                for (int b = 0; b < bridgeCount; b++) {
                    int ends = bridges[b].endBits();
                    if ((open >> b & 1) != 0 && (places & ends) != 0) {
                        places |= ends;
                    }
                }
                if (places == before) {
                    break;
                }
            }
            return places;
        }
    }

    /** Searches; their rows are made once and used again by each search. */
    private static final class Ways {
        /** Above all breath and all fees together. */
        static final int TOO_MUCH = 10000;

        final World world;
        final int[] breathTo = new int[PLACES];
        final int[] feesToKnow = new int[ALL_VERSES + 1];
        int lessonFees = NONE;
        int lessonVerses = NONE;

        Ways(World itsWorld) {
            world = itsWorld;
        }

        int homeBreath(Singer one, int place) {
            measureFrom(place, world.openTo(one.verses));
            int least = breathTo[one.place];
            return least <= one.breath ? least : NONE;
        }

        int homeBridge(Singer one, int place) {
            int least = homeBreath(one, place);
            if (least == NONE) {
                return NONE;
            }
            for (int b = 0; b < world.bridgeCount; b++) {
                Bridge over = world.bridges[b];
                if (over.opensTo(one.verses) && over.isInReach(one.place, least)
                    && over.length + breathTo[over.otherEnd(one.place)] == least) {
                    return b;
                }
            }
            return NONE;
        }

        /** Fills breathTo by open bridges; as each goes both ways, it tells the ways to that place, too. */
        private void measureFrom(int place, int open) {
            Arrays.fill(breathTo, TOO_MUCH);
            breathTo[place] = 0;
            for (int round = 1; round < PLACES; round++) {
                for (int b = 0; b < world.bridgeCount; b++) {
                    if ((open >> b & 1) != 0) {
                        shorten(world.bridges[b]);
                    }
                }
            }
        }

        private void shorten(Bridge over) {
            breathTo[over.to] = Math.min(breathTo[over.to], breathTo[over.from] + over.length);
            breathTo[over.from] = Math.min(breathTo[over.from], breathTo[over.to] + over.length);
        }

        /** Where a singer could come with the breath that is left, did it know these verses. */
        int placesInBreath(Singer one, int verses) {
            measureFrom(one.place, world.openTo(verses));
            int places = 0;
            for (int place = 0; place < PLACES; place++) {
                if (breathTo[place] <= one.breath) {
                    places |= 1 << place;
                }
            }
            return places;
        }

        int verseToLearn(Singer one) {
            int[] fees = world.fees[one.place];
            int found = NONE;
            int most = Integer.bitCount(placesInBreath(one, one.verses));
            for (int v = 0; v < VERSES; v++) {
                if (!one.knows(v) && fees[v] != NONE && fees[v] <= one.purse) {
                    int places = Integer.bitCount(placesInBreath(one, one.verses | 1 << v));
                    if (places > most) {
                        most = places;
                        found = v;
                    }
                }
            }
            return found;
        }

        /**
         * Sets lessonFees and lessonVerses. Learning adds bits, so each set of verses
         * comes behind all those from which it is learnt, and of like ones the least comes first.
         */
        void findLessons(Singer one, int place) {
            lessonFees = NONE;
            lessonVerses = NONE;
            int least = one.purse + 1;
            Arrays.fill(feesToKnow, TOO_MUCH);
            feesToKnow[one.verses] = 0;
            for (int known = one.verses; known <= ALL_VERSES; known++) {
                if (feesToKnow[known] < least) {
                    int places = world.placesOpen(one.place, known);
                    if ((places >> place & 1) != 0) {
                        least = feesToKnow[known];
                        lessonFees = least;
                        lessonVerses = known & ~one.verses;
                    }
                    learnMore(known, places);
                }
            }
        }

        private void learnMore(int known, int places) {
            for (int v = 0; v < VERSES; v++) {
                int more = known | 1 << v;
                if (more != known) {
                    feesToKnow[more] = Math.min(feesToKnow[more], feesToKnow[known] + leastFee(v, places));
                }
            }
        }

        private int leastFee(int verse, int places) {
            int least = TOO_MUCH;
            for (int place = 0; place < PLACES; place++) {
                int fee = world.fees[place][verse];
                if ((places >> place & 1) != 0 && fee != NONE) {
                    least = Math.min(least, fee);
                }
            }
            return least;
        }

        /** The fewest singers, as bits. */
        int leastChoir(int a, int b) {
            int found = NONE;
            int fewest = MOST_SINGERS + 1;
            for (int choir = 0; choir < 1 << world.singerCount; choir++) {
                int size = Integer.bitCount(choir);
                if (size < fewest && (world.placesOpen(a, versesOf(choir)) >> b & 1) != 0) {
                    found = choir;
                    fewest = size;
                }
            }
            return found;
        }

        private int versesOf(int choir) {
            int verses = 0;
            for (int s = 0; s < world.singerCount; s++) {
                if ((choir >> s & 1) != 0) {
                    verses |= world.singers[s].verses;
                }
            }
            return verses;
        }
    }

    /** One who goes as a singer would go; the singer itself stays as it is. */
    private static final class Wanderer {
        final World world;
        int open = 0;
        int place = 0;
        int breath = 0;
        int crossed = 0;
        long seed = 0;

        Wanderer(World itsWorld) {
            world = itsWorld;
        }

        void begin(Singer one, int itsSeed) {
            open = world.openTo(one.verses);
            place = one.place;
            breath = one.breath;
            crossed = 0;
            seed = itsSeed;
        }

        void takeTurn() {
            int choices = 0;
            for (int b = 0; b < world.bridgeCount; b++) {
                if (canTake(b)) {
                    choices++;
                }
            }
            if (choices > 0) {
                goOverChoice(draw(choices));
            }
        }

        private void goOverChoice(int choice) {
            int ahead = choice;
            for (int b = 0; b < world.bridgeCount; b++) {
                if (canTake(b)) {
                    if (ahead == 0) {
                        breath -= world.bridges[b].length;
                        place = world.bridges[b].otherEnd(place);
                        crossed++;
                        return;
                    }
                    ahead--;
                }
            }
        }

        private boolean canTake(int bridge) {
            return (open >> bridge & 1) != 0 && world.bridges[bridge].isInReach(place, breath);
        }

        private int draw(int choices) {
            seed = (1103515245L * seed + 12345L) & 0x7fffffffL;
            return choices > 0 ? (int) (seed / 65536L % choices) : 0;
        }

        int property(int what) {
            switch (what) {
                case 0:
                    return place;
                case 1:
                    return breath;
                case 2:
                    return crossed;
                default:
                    return (int) seed;
            }
        }
    }
}
