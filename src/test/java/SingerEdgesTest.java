import java.io.IOException;

/** Promises 10 to 16 at their edges; each method holds the class to one sentence of the document. */
public final class SingerEdgesTest {
    private static final int NONE = Check.NONE, UNKNOWN = Check.UNKNOWN, OUTSIDE = Check.OUTSIDE,
        STATE = Check.STATE, FULL = Check.FULL;

    public static void main(String[] args) throws IOException {
        Check.runAll(SingerEdgesTest.class);
    }

    private static void due(String what, long want, long got) {
        Check.due(what, want, got);
    }

    /** One bridge, and one singer at place 0 with much of everything but these verses. */
    private static SongToBridge oneAt(String bridge, int verses) {
        SongToBridge x = Check.with(bridge);
        x.singer(0, verses, 30, 6, 99);
        return x;
    }

    private static int mayOf(String bridge, int verses) {
        return oneAt(bridge, verses).may(0, 0);
    }

    // ---- singer

    @Says(promise = 10, text = "UNKNOWN: place")
    private static void placeOfASinger() {
        for (int place = 0; place < 6; place++) {
            SongToBridge x = new SongToBridge();
            due("place " + place, 0, x.singer(place, 0, 0, 1, 0));
            due("told(0, 0)", place, x.told(0, 0));
        }
        Check.refused("place -1", UNKNOWN, Check::some, x -> x.singer(-1, 0, 0, 1, 0));
        Check.refused("place 6", UNKNOWN, Check::some, x -> x.singer(6, 0, 0, 1, 0));
    }

    @Says(promise = 10, text = "OUTSIDE: verses (0 to 63)")
    private static void versesOfASinger() {
        for (int verses = 0; verses <= 63; verses++) {
            SongToBridge x = new SongToBridge();
            due("verses " + verses, 0, x.singer(0, verses, 0, 1, 0));
            due("told(0, 1)", verses, x.told(0, 1));
        }
        Check.refused("verses -1", OUTSIDE, Check::some, x -> x.singer(0, -1, 0, 1, 0));
        Check.refused("verses 64", OUTSIDE, Check::some, x -> x.singer(0, 64, 0, 1, 0));
        Check.refused("verses 65", OUTSIDE, Check::some, x -> x.singer(0, 65, 0, 1, 0));
    }

    @Says(promise = 0, text = "BREATH (0 to 30: so much each day)")
    private static void breathOfASinger() {
        for (int breath = 0; breath <= 30; breath++) {
            SongToBridge x = new SongToBridge();
            due("breath " + breath, 0, x.singer(0, 0, breath, 1, 0));
            due("told(0, 2)", breath, x.told(0, 2));
            due("told(0, 3)", breath, x.told(0, 3));
        }
        Check.refused("breath -1", OUTSIDE, Check::some, x -> x.singer(0, 0, -1, 1, 0));
        Check.refused("breath 31", OUTSIDE, Check::some, x -> x.singer(0, 0, 31, 1, 0));
    }

    @Says(promise = 0, text = "MEMORY (1 to 6)")
    private static void memoryOfASinger() {
        for (int memory = 1; memory <= 6; memory++) {
            SongToBridge x = new SongToBridge();
            due("memory " + memory, 0, x.singer(0, 0, 0, memory, 0));
            due("told(0, 4)", memory, x.told(0, 4));
        }
        Check.refused("memory -1", OUTSIDE, Check::some, x -> x.singer(0, 0, 0, -1, 0));
        Check.refused("memory 0", OUTSIDE, Check::some, x -> x.singer(0, 0, 0, 0, 0));
        Check.refused("memory 7", OUTSIDE, Check::some, x -> x.singer(0, 0, 0, 7, 0));
    }

    @Says(promise = 0, text = "a PURSE (0 to 99)")
    private static void purseOfASinger() {
        for (int purse : new int[] {0, 1, 98, 99}) {
            SongToBridge x = new SongToBridge();
            due("purse " + purse, 0, x.singer(0, 0, 0, 1, purse));
            due("told(0, 5)", purse, x.told(0, 5));
        }
        Check.refused("purse -1", OUTSIDE, Check::some, x -> x.singer(0, 0, 0, 1, -1));
        Check.refused("purse 100", OUTSIDE, Check::some, x -> x.singer(0, 0, 0, 1, 100));
    }

    @Says(promise = 10, text = "UNKNOWN: place; OUTSIDE: verses (0 to 63), breath, memory, purse; FULL.")
    private static void singerFarOutside() {
        for (int n : Check.FAR) {
            Check.refused("place " + n, UNKNOWN, Check::some, x -> x.singer(n, 0, 0, 1, 0));
            Check.refused("verses " + n, OUTSIDE, Check::some, x -> x.singer(0, n, 0, 1, 0));
            Check.refused("breath " + n, OUTSIDE, Check::some, x -> x.singer(0, 0, n, 1, 0));
            Check.refused("memory " + n, OUTSIDE, Check::some, x -> x.singer(0, 0, 0, n, 0));
            Check.refused("purse " + n, OUTSIDE, Check::some, x -> x.singer(0, 0, 0, 1, n));
        }
    }

    @Says(promise = 0, text = "SINGERS (5 at most, numbered)")
    private static void fiveSingersFit() {
        SongToBridge x = new SongToBridge();
        for (int s = 0; s < 5; s++) {
            due("singer " + s, s, x.singer(s + 1, s, s, 1, s));
            due("count(1)", s + 1, x.count(1));
            due("its place", s + 1, x.told(s, 0));
        }
        due("a sixth", FULL, x.singer(0, 0, 0, 1, 0));
        due("count(1)", 5, x.count(1));
        due("told(5, 0)", UNKNOWN, x.told(5, 0));
    }

    @Says(promise = 10, text = "UNKNOWN: place; OUTSIDE: verses (0 to 63), breath, memory, purse; FULL.")
    private static void singerRefusalsInOrder() {
        Check.refused("a sixth", FULL, Check::full, x -> x.singer(0, 0, 0, 1, 0));
        Check.refused("a sixth of no place", UNKNOWN, Check::full, x -> x.singer(6, 0, 0, 1, 0));
        Check.refused("a sixth with verses 64", OUTSIDE, Check::full, x -> x.singer(0, 64, 0, 1, 0));
        Check.refused("a sixth with breath 31", OUTSIDE, Check::full, x -> x.singer(0, 0, 31, 1, 0));
        Check.refused("a sixth with memory 0", OUTSIDE, Check::full, x -> x.singer(0, 0, 0, 0, 0));
        Check.refused("a sixth with purse 100", OUTSIDE, Check::full, x -> x.singer(0, 0, 0, 1, 100));
        Check.refused("verses 64 of no place", UNKNOWN, Check::some, x -> x.singer(6, 64, 0, 1, 0));
        Check.refused("purse 100 of no place", UNKNOWN, Check::some, x -> x.singer(-1, 0, 0, 1, 100));
    }

    @Says(promise = 0, text = "those that come since are gone by restore()")
    private static void restoreMakesRoomForSingers() {
        SongToBridge x = Check.full();
        due("full", FULL, x.singer(5, 63, 3, 6, 4));
        x.restore();
        due("room again", 2, x.singer(5, 63, 3, 6, 4));
        int[] all = {5, 63, 3, 3, 6, 4, 0};
        for (int what = 0; what < all.length; what++) {
            due("told(2, " + what + ")", all[what], x.told(2, what));
        }
    }

    // ---- told

    @Says(promise = 11, text = "what = 0 PLACE, 1 VERSES, 2 BREATH that is left, 3 BREATH of a day, 4 MEMORY, 5 PURSE")
    private static void toldFromZeroToSix() {
        SongToBridge x = Check.with("35ab");
        x.singer(3, 0b100011, 28, 4, 71);
        x.cross(0, 0);
        int[] all = {5, 0b100011, 26, 28, 4, 71, 5};
        due("told(0, -1)", OUTSIDE, x.told(0, -1));
        for (int what = 0; what <= 6; what++) {
            due("told(0, " + what + ")", all[what], x.told(0, what));
        }
        due("told(0, 7)", OUTSIDE, x.told(0, 7));
    }

    @Says(promise = 11, text = "6 which VERSE it would forget first (NONE: it knows none), however many it knows")
    private static void whatWouldBeForgottenOfNone() {
        for (int memory = 1; memory <= 6; memory++) {
            SongToBridge x = new SongToBridge();
            x.singer(0, 0, 0, memory, 0);
            due("told(0, 6) of none, memory " + memory, NONE, x.told(0, 6));
        }
    }

    @Says(promise = 11, text = "however many it knows")
    private static void whatWouldBeForgottenWithinMemory() {
        for (int v = 0; v < 6; v++) {
            SongToBridge x = new SongToBridge();
            x.singer(0, 1 << v, 0, 6, 0);
            due("told(0, 6) of one verse", v, x.told(0, 6));
            x.singer(0, 63 & ~((1 << v) - 1), 0, 6, 0);
            due("told(1, 6) of the upper verses", v, x.told(1, 6));
        }
    }

    @Says(promise = 11, text = "UNKNOWN; OUTSIDE.")
    private static void toldRefusals() {
        Check.refused("told(-1, 0)", UNKNOWN, Check::some, x -> x.told(-1, 0));
        Check.refused("told(3, 0)", UNKNOWN, Check::some, x -> x.told(3, 0));
        Check.refused("told(5, 0)", UNKNOWN, Check::full, x -> x.told(5, 0));
        Check.refused("told(2, -1)", OUTSIDE, Check::some, x -> x.told(2, -1));
        Check.refused("told(2, 7)", OUTSIDE, Check::some, x -> x.told(2, 7));
        Check.refused("told(3, 7)", UNKNOWN, Check::some, x -> x.told(3, 7));
        for (int n : Check.FAR) {
            Check.refused("told(" + n + ", 0)", UNKNOWN, Check::full, x -> x.told(n, 0));
            Check.refused("told(0, " + n + ")", OUTSIDE, Check::full, x -> x.told(0, n));
            Check.refused("told(" + n + ", " + n + ")", UNKNOWN, Check::full, x -> x.told(n, n));
        }
        due("told(4, 0)", 3, Check.full().told(4, 0));
    }

    @Says(promise = 11, text = "Of a SINGER")
    private static void toldChangesNothing() {
        for (int what = 0; what <= 6; what++) {
            int asked = what;
            Check.asks("told(1, " + what + ")", Check::some, x -> x.told(1, asked));
        }
    }

    // ---- teach

    @Says(promise = 12, text = "A PLACE teaches a VERSE for a FEE (-1: no more): what the FEE was (NONE).")
    private static void feeOfEachRange() {
        SongToBridge x = new SongToBridge();
        due("none at first", NONE, x.teach(0, 0, 0));
        due("0", 0, x.teach(0, 0, 1));
        due("1", 1, x.teach(0, 0, 98));
        due("98", 98, x.teach(0, 0, 99));
        due("99", 99, x.teach(0, 0, NONE));
        due("no more", NONE, x.teach(0, 0, NONE));
        due("still none", NONE, x.teach(0, 0, 5));
        due("the same", 5, x.teach(0, 0, 5));
    }

    @Says(promise = 0, text = "A PLACE may teach a VERSE for a FEE (0 to 99; none at first)")
    private static void feeOutsideItsRange() {
        Check.refused("fee -2", OUTSIDE, Check::some, x -> x.teach(0, 4, -2));
        Check.refused("fee 100", OUTSIDE, Check::some, x -> x.teach(0, 4, 100));
        for (int n : Check.FAR) {
            Check.refused("fee " + n, OUTSIDE, Check::some, x -> x.teach(0, 4, n));
        }
        Check.refused("fee UNKNOWN", OUTSIDE, Check::some, x -> x.teach(0, 4, UNKNOWN));
    }

    @Says(promise = 12, text = "UNKNOWN: place, verse; OUTSIDE.")
    private static void teachRefusals() {
        Check.refused("place -1", UNKNOWN, Check::some, x -> x.teach(-1, 0, 5));
        Check.refused("place 6", UNKNOWN, Check::some, x -> x.teach(6, 0, 5));
        Check.refused("verse -1", UNKNOWN, Check::some, x -> x.teach(0, -1, 5));
        Check.refused("verse 6", UNKNOWN, Check::some, x -> x.teach(0, 6, 5));
        Check.refused("place 6 and fee 100", UNKNOWN, Check::some, x -> x.teach(6, 0, 100));
        Check.refused("verse 6 and fee -2", UNKNOWN, Check::some, x -> x.teach(0, 6, -2));
        for (int n : Check.FAR) {
            Check.refused("place " + n, UNKNOWN, Check::some, x -> x.teach(n, 0, 5));
            Check.refused("verse " + n, UNKNOWN, Check::some, x -> x.teach(0, n, 5));
            Check.refused("all " + n, UNKNOWN, Check::some, x -> x.teach(n, n, n));
        }
    }

    @Says(promise = 12, text = "A PLACE teaches a VERSE for a FEE")
    private static void eachPlaceHasItsOwnFees() {
        SongToBridge x = new SongToBridge();
        for (int i = 0; i < 36; i++) {
            due("count(2)", i, x.count(2));
            due("fee " + i + " at first", NONE, x.teach(i / 6, i % 6, i));
        }
        for (int i = 0; i < 36; i++) {
            due("fee " + i, i, x.teach(i / 6, i % 6, NONE));
            due("count(2)", 35 - i, x.count(2));
        }
    }

    // ---- may

    @Says(promise = 0, text = "One can SING it, if nothing is LACKING")
    private static void plainSongNeedsEachVerse() {
        due("one verse, known", 1, mayOf("01f", 0b100000));
        due("one verse, lacking", 0, mayOf("01f", 0b011111));
        due("five verses, known", 1, mayOf("01abcde", 0b011111));
        for (int v = 0; v < 5; v++) {
            due("five verses, one lacking", 0, mayOf("01abcde", 63 & ~(1 << v)));
            due("an echo of five, one lacking", 0, mayOf("01!abcde", 63 & ~(1 << v)));
        }
        due("one who knows no verse", 0, mayOf("01a", 0));
    }

    @Says(promise = 0, text = "how many of its VERSES (one that comes twice twice) one does not know")
    private static void lackingVerseThatComesTwice() {
        due("once, deaf", 1, mayOf("01?ab", 0b000010));
        due("twice, deaf", 0, mayOf("01?aba", 0b000010));
        due("twice side by side, deaf", 0, mayOf("01?aab", 0b000010));
        due("known twice, another lacking, deaf", 1, mayOf("01?aba", 0b000001));
        due("twice behind the first, worn", 0, mayOf("01~baa", 0b000010));
        due("once as the first, once behind it, worn", 1, mayOf("01~aab", 0b000010));
    }

    @Says(promise = 0, text = "of a DEAF, a WORN, if one at most is LACKING, and one knows some VERSE")
    private static void deafMissesOne() {
        due("none lacking", 1, mayOf("01?ab", 0b000011));
        due("one lacking", 1, mayOf("01?ab", 0b000001));
        due("two lacking", 0, mayOf("01?ab", 0b100000));
        due("five, none lacking", 1, mayOf("01?abcde", 0b011111));
        due("five, one lacking", 1, mayOf("01?abcde", 0b001111));
        due("five, two lacking", 0, mayOf("01?abcde", 0b000111));
    }

    @Says(promise = 0, text = "of a WORN the first VERSE is not looked at")
    private static void wornMissesItsFirstAndOne() {
        due("none lacking", 1, mayOf("01~abc", 0b000111));
        due("its first lacking", 1, mayOf("01~abc", 0b000110));
        due("its first and one lacking", 1, mayOf("01~abc", 0b000100));
        due("all lacking", 0, mayOf("01~abc", 0b100000));
        due("but for its first all lacking", 0, mayOf("01~abc", 0b000001));
        due("one verse, lacking", 1, mayOf("01~a", 0b100000));
        due("two verses, lacking", 1, mayOf("01~ab", 0b100000));
    }

    @Says(promise = 0, text = "and one knows some VERSE")
    private static void deafHearsThatNothingIsSung() {
        due("deaf, one verse, one knows none", 0, mayOf("01?a", 0));
        due("worn, one verse, one knows none", 0, mayOf("01~a", 0));
        due("worn, two verses, one knows none", 0, mayOf("01~ab", 0));
        for (int v = 0; v < 6; v++) {
            due("deaf, one verse, one knows another", 1, mayOf("01?a", 1 << v));
            due("worn, one verse, one knows another", 1, mayOf("01~a", 1 << v));
            due("worn, two verses, one knows another", 1, mayOf("01~ab", 1 << v));
        }
    }

    @Says(promise = 0, text = "has BREATH left for its LENGTH")
    private static void breathForTheLength() {
        String[] bridges = {"01a", "01abcde", "01?abc", "01!aabbc", "01~abcd", "01aaaaa", "01!aaaaa"};
        int[] lengths = {1, 5, 3, 3, 4, 5, 1};
        for (int i = 0; i < bridges.length; i++) {
            for (int breath = 0; breath <= 6; breath++) {
                SongToBridge x = Check.with(bridges[i]);
                x.singer(0, 63, breath, 6, 0);
                due("may of " + bridges[i] + " with breath " + breath, breath >= lengths[i] ? 1 : 2, x.may(0, 0));
            }
        }
    }

    @Says(promise = 0, text = "if one stands in one of its PLACES")
    private static void placesFromWhichOneMay() {
        for (int place = 0; place < 6; place++) {
            SongToBridge x = Check.with("25ab");
            x.singer(place, 63, 30, 6, 0);
            due("may from " + place, place == 2 || place == 5 ? 1 : 2, x.may(0, 0));
        }
    }

    @Says(promise = 13, text = "can SING it (2; but for PLACE or BREATH), or neither (0)")
    private static void mayNotForSeveralReasons() {
        SongToBridge x = Check.with("01ab");
        x.singer(5, 0b000011, 1, 6, 0);
        x.singer(5, 0b000001, 1, 6, 0);
        x.singer(0, 0b000001, 30, 6, 0);
        due("neither place nor breath", 2, x.may(0, 0));
        due("neither place nor breath nor song", 0, x.may(1, 0));
        due("no song alone", 0, x.may(2, 0));
    }

    @Says(promise = 13, text = "Whether one MAY cross a BRIDGE now (1)")
    private static void breathThatIsLeftCounts() {
        SongToBridge x = Check.with("01ab", "01abc");
        x.singer(0, 0b000111, 5, 6, 0);
        due("at first", 1, x.may(0, 1));
        x.cross(0, 0);
        due("with just so much left", 1, x.may(0, 1));
        x.cross(0, 0);
        due("with too little left", 2, x.may(0, 1));
        due("for the shorter, too", 2, x.may(0, 0));
        x.night();
        due("with all breath again", 1, x.may(0, 1));
    }

    @Says(promise = 13, text = "UNKNOWN: singer, bridge.")
    private static void mayRefusals() {
        Check.refused("may(-1, 0)", UNKNOWN, Check::some, x -> x.may(-1, 0));
        Check.refused("may(3, 0)", UNKNOWN, Check::some, x -> x.may(3, 0));
        Check.refused("may(5, 0)", UNKNOWN, Check::full, x -> x.may(5, 0));
        Check.refused("may(0, -1)", UNKNOWN, Check::some, x -> x.may(0, -1));
        Check.refused("may(0, 4)", UNKNOWN, Check::some, x -> x.may(0, 4));
        Check.refused("may(0, 9)", UNKNOWN, Check::full, x -> x.may(0, 9));
        for (int n : Check.FAR) {
            Check.refused("may(" + n + ", 0)", UNKNOWN, Check::full, x -> x.may(n, 0));
            Check.refused("may(0, " + n + ")", UNKNOWN, Check::full, x -> x.may(0, n));
            Check.refused("may(" + n + ", " + n + ")", UNKNOWN, Check::full, x -> x.may(n, n));
        }
        due("may(4, 8)", 1, Check.full().may(4, 8));
        Check.asks("may(4, 8)", Check::full, x -> x.may(4, 8));
        Check.asks("may(0, 0)", Check::some, x -> x.may(0, 0));
    }

    // ---- cross

    @Says(promise = 14, text = "It crosses: the PLACE where it is then.")
    private static void crossesFromEitherPlace() {
        SongToBridge x = Check.with("50ab");
        x.singer(5, 0b000011, 30, 6, 0);
        due("from the first", 0, x.cross(0, 0));
        due("told(0, 0)", 0, x.told(0, 0));
        due("from the second", 5, x.cross(0, 0));
        due("told(0, 0)", 5, x.told(0, 0));
    }

    @Says(promise = 0, text = "has so much less BREATH")
    private static void crossesToTheLastBreath() {
        SongToBridge x = Check.with("01abc", "01!ccc");
        x.singer(0, 0b000111, 7, 6, 0);
        due("the first", 1, x.cross(0, 0));
        due("breath", 4, x.told(0, 2));
        due("the second", 0, x.cross(0, 0));
        due("breath", 1, x.told(0, 2));
        due("too little", STATE, x.cross(0, 0));
        due("an echo for one", 1, x.cross(0, 1));
        due("no breath", 0, x.told(0, 2));
        due("an echo without", STATE, x.cross(0, 1));
        due("breath of a day", 7, x.told(0, 3));
    }

    @Says(promise = 14, text = "STATE: it MAY not.")
    private static void crossRefusedForPlaceBreathOrSong() {
        Check.refused("not its place", STATE, Check::some, x -> x.cross(1, 0));
        Check.refused("its place, not its song", STATE, () -> knowingTooLittle(), x -> x.cross(3, 0));
        Check.refused("too little breath", STATE, () -> withTooLittleBreath(), x -> x.cross(3, 0));
    }

    private static SongToBridge knowingTooLittle() {
        SongToBridge x = Check.some();
        x.singer(0, 0b000001, 30, 1, 0);
        return x;
    }

    private static SongToBridge withTooLittleBreath() {
        SongToBridge x = Check.some();
        x.singer(0, 0b000111, 1, 1, 0);
        return x;
    }

    @Says(promise = 14, text = "UNKNOWN: singer, bridge; STATE: it MAY not.")
    private static void crossRefusalsInOrder() {
        Check.refused("cross(-1, 0)", UNKNOWN, Check::some, x -> x.cross(-1, 0));
        Check.refused("cross(3, 0)", UNKNOWN, Check::some, x -> x.cross(3, 0));
        Check.refused("cross(5, 0)", UNKNOWN, Check::full, x -> x.cross(5, 0));
        Check.refused("cross(0, -1)", UNKNOWN, Check::some, x -> x.cross(0, -1));
        Check.refused("cross(0, 4)", UNKNOWN, Check::some, x -> x.cross(0, 4));
        Check.refused("cross(0, 9)", UNKNOWN, Check::full, x -> x.cross(0, 9));
        for (int n : Check.FAR) {
            Check.refused("cross(" + n + ", 0)", UNKNOWN, Check::full, x -> x.cross(n, 0));
            Check.refused("cross(0, " + n + ")", UNKNOWN, Check::full, x -> x.cross(0, n));
            Check.refused("cross(" + n + ", " + n + ")", UNKNOWN, Check::full, x -> x.cross(n, n));
        }
        due("cross(4, 8)", 4, Check.full().cross(4, 8));
    }

    @Says(promise = 0, text = "has USED all VERSES of the SONG that one knows")
    private static void crossingUsesWhatOneKnows() {
        SongToBridge x = oneAt("01abcde", 63);
        due("at first", 0, x.told(0, 6));
        x.cross(0, 0);
        due("f alone was never used", 5, x.told(0, 6));
        SongToBridge deaf = oneAt("01?ab", 0b100010);
        deaf.cross(0, 0);
        due("b was used", 5, deaf.told(0, 6));
        SongToBridge worn = oneAt("01~ab", 0b000111);
        worn.cross(0, 0);
        due("a worn one's first was used", 2, worn.told(0, 6));
    }

    @Says(promise = 0, text = "has USED all VERSES of the SONG that one knows")
    private static void verseThatIsLackingIsNotUsed() {
        SongToBridge x = Check.with("01?ab", "01c");
        x.singer(0, 0b000110, 30, 1, 99);
        x.teach(0, 0, 0);
        x.cross(0, 1);
        x.cross(0, 0);
        due("c was used first", 2, x.told(0, 6));
        x.learn(0, 0);
        x.cross(0, 1);
        due("b is the oldest", 1, x.told(0, 6));
    }

    @Says(promise = 14, text = "It crosses")
    private static void crossingLeavesOthers() {
        SongToBridge x = Check.with("01a");
        x.singer(0, 0b000011, 9, 1, 5);
        x.singer(0, 0b000011, 9, 1, 5);
        x.cross(0, 0);
        int[] all = {0, 3, 9, 9, 1, 5, 0};
        for (int what = 0; what < all.length; what++) {
            due("told(1, " + what + ")", all[what], x.told(1, what));
        }
        due("purse", 5, x.told(0, 5));
        due("verses", 3, x.told(0, 1));
    }

    // ---- learn

    /** One singer at place 2 who knows a, with this purse; place 2 teaches b for this fee. */
    private static SongToBridge pupil(int purse, int fee) {
        SongToBridge x = Check.with("23b");
        x.singer(2, 0b000001, 9, 6, purse);
        x.teach(2, 1, fee);
        return x;
    }

    @Says(promise = 15, text = "or the FEE is more than its PURSE")
    private static void feeAndPurse() {
        int[][] enough = {{0, 0}, {5, 5}, {5, 4}, {1, 0}, {99, 99}, {99, 0}};
        for (int[] one : enough) {
            SongToBridge x = pupil(one[0], one[1]);
            due("fee " + one[1] + " of " + one[0], one[0] - one[1], x.learn(0, 1));
            due("purse", one[0] - one[1], x.told(0, 5));
            due("verses", 0b000011, x.told(0, 1));
        }
        int[][] tooMuch = {{0, 1}, {4, 5}, {98, 99}, {0, 99}};
        for (int[] one : tooMuch) {
            Check.refused("fee " + one[1] + " of " + one[0], STATE, () -> pupil(one[0], one[1]), x -> x.learn(0, 1));
        }
    }

    @Says(promise = 0, text = "the FEE is 1 more then (99 at most)")
    private static void feeRises() {
        int[] fees = {0, 1, 97, 98, 99};
        int[] then = {1, 2, 98, 99, 99};
        for (int i = 0; i < fees.length; i++) {
            SongToBridge x = pupil(99, fees[i]);
            x.learn(0, 1);
            due("fee " + fees[i] + " then", then[i], x.teach(2, 1, 0));
        }
    }

    @Says(promise = 0, text = "the FEE is 1 more then (99 at most)")
    private static void feeRisesThereAlone() {
        SongToBridge x = pupil(99, 50);
        x.teach(2, 0, 50);
        x.teach(3, 1, 50);
        x.learn(0, 1);
        due("of another verse", 50, x.teach(2, 0, 50));
        due("of another place", 50, x.teach(3, 1, 50));
        due("there", 51, x.teach(2, 1, 50));
        due("how many fees", 3, x.count(2));
    }

    @Says(promise = 0, text = "the FEE is 1 more then")
    private static void feeRisesForTheNext() {
        SongToBridge x = pupil(10, 9);
        x.singer(2, 0, 0, 1, 10);
        x.singer(2, 0, 0, 1, 10);
        due("the first", 1, x.learn(0, 1));
        due("the second", 0, x.learn(1, 1));
        due("the third", STATE, x.learn(2, 1));
    }

    @Says(promise = 15, text = "STATE: it knows it, it is not taught there")
    private static void learnRefusedForWhatIsKnownOrNotTaught() {
        Check.refused("it knows it", STATE, () -> knowing(), x -> x.learn(0, 0));
        Check.refused("taught nowhere", STATE, () -> pupil(99, 0), x -> x.learn(0, 2));
        Check.refused("taught elsewhere", STATE, () -> knowing(), x -> x.learn(0, 5));
        Check.refused("no more taught", STATE, () -> pupil(99, NONE), x -> x.learn(0, 1));
    }

    private static SongToBridge knowing() {
        SongToBridge x = pupil(99, 0);
        x.teach(2, 0, 0);
        x.teach(1, 5, 0);
        x.teach(3, 5, 0);
        return x;
    }

    @Says(promise = 15, text = "It learns a VERSE where it is")
    private static void learnsWhereItIsThen() {
        SongToBridge x = Check.with("23a");
        x.singer(2, 0b000001, 9, 6, 9);
        x.teach(3, 5, 4);
        due("ahead of the bridge", STATE, x.learn(0, 5));
        x.cross(0, 0);
        due("behind it", 5, x.learn(0, 5));
        due("again", STATE, x.learn(0, 5));
    }

    @Says(promise = 15, text = "UNKNOWN: singer, verse; STATE")
    private static void learnRefusalsInOrder() {
        Check.refused("learn(-1, 0)", UNKNOWN, Check::some, x -> x.learn(-1, 0));
        Check.refused("learn(3, 0)", UNKNOWN, Check::some, x -> x.learn(3, 0));
        Check.refused("learn(5, 0)", UNKNOWN, Check::full, x -> x.learn(5, 0));
        Check.refused("learn(0, -1)", UNKNOWN, Check::some, x -> x.learn(0, -1));
        Check.refused("learn(0, 6)", UNKNOWN, Check::some, x -> x.learn(0, 6));
        for (int n : Check.FAR) {
            Check.refused("learn(" + n + ", 0)", UNKNOWN, Check::full, x -> x.learn(n, 0));
            Check.refused("learn(0, " + n + ")", UNKNOWN, Check::full, x -> x.learn(0, n));
            Check.refused("learn(" + n + ", " + n + ")", UNKNOWN, Check::full, x -> x.learn(n, n));
        }
    }

    @Says(promise = 15, text = "UNKNOWN: singer, verse")
    private static void firstAndLastVerseAreLearnt() {
        for (int v = 0; v < 6; v++) {
            SongToBridge x = new SongToBridge();
            x.singer(5, 0, 0, 6, 7);
            x.teach(5, v, 7);
            due("learn(0, " + v + ")", 0, x.learn(0, v));
            due("verses", 1 << v, x.told(0, 1));
        }
    }

    @Says(promise = 0, text = "pays the FEE, knows it, and has USED it")
    private static void whatIsLearntIsUsed() {
        SongToBridge x = Check.with("01b");
        x.singer(0, 0b000010, 30, 1, 99);
        x.teach(0, 0, 1);
        x.teach(0, 2, 1);
        x.learn(0, 0);
        due("b was never used", 1, x.told(0, 6));
        x.cross(0, 0);
        due("a was used first", 0, x.told(0, 6));
        x.cross(0, 0);
        x.learn(0, 2);
        due("a still", 0, x.told(0, 6));
        due("forgotten", 1, x.night());
        due("then b", 1, x.told(0, 6));
        x.learn(0, 0);
        due("a anew: b still", 1, x.told(0, 6));
        x.cross(0, 0);
        due("c is the oldest", 2, x.told(0, 6));
    }

    @Says(promise = 15, text = "It learns a VERSE where it is: its PURSE then.")
    private static void learningTakesNoBreath() {
        SongToBridge x = Check.with("01a");
        x.singer(0, 0, 0, 1, 3);
        x.teach(0, 0, 3);
        due("without breath", 0, x.learn(0, 0));
        due("more than memory is learnt", STATE, x.learn(0, 1));
        x.teach(0, 1, 0);
        due("more than memory is learnt", 0, x.learn(0, 1));
        due("verses", 0b000011, x.told(0, 1));
    }

    // ---- night

    @Says(promise = 16, text = "how many VERSES were forgotten by all")
    private static void nightOfNoneToFive() {
        SongToBridge x = new SongToBridge();
        due("no singers", 0, x.night());
        for (int s = 1; s <= 5; s++) {
            x.singer(0, 63, 0, 1, 0);
        }
        int[] forgotten = {5, 5, 5, 5, 5, 0, 0};
        for (int night = 0; night < forgotten.length; night++) {
            due("night " + night, forgotten[night], x.night());
        }
        for (int s = 0; s < 5; s++) {
            due("what is left", 0b100000, x.told(s, 1));
        }
    }

    @Says(promise = 0, text = "who knows more VERSES than MEMORY forgets one")
    private static void memoryAgainstHowManyAreKnown() {
        for (int memory = 1; memory <= 6; memory++) {
            for (int known = 0; known <= 6; known++) {
                SongToBridge x = new SongToBridge();
                x.singer(0, (1 << known) - 1, 0, memory, 0);
                boolean forgets = known > memory;
                due("night with " + known + " and memory " + memory, forgets ? 1 : 0, x.night());
                due("verses", forgets ? (1 << known) - 2 : (1 << known) - 1, x.told(0, 1));
            }
        }
    }

    @Says(promise = 0, text = "who knows more VERSES than MEMORY forgets one")
    private static void onlyWhoKnowsMoreForgets() {
        SongToBridge x = new SongToBridge();
        x.singer(0, 0b000111, 0, 2, 0);
        x.singer(0, 0b000111, 0, 3, 0);
        x.singer(0, 0b000111, 0, 1, 0);
        due("the first night", 2, x.night());
        due("the second night", 1, x.night());
        due("the third night", 0, x.night());
        int[] left = {0b000110, 0b000111, 0b000100};
        for (int s = 0; s < 3; s++) {
            due("what singer " + s + " knows", left[s], x.told(s, 1));
        }
    }

    @Says(promise = 0, text = "By NIGHT all have all their BREATH again")
    private static void nightGivesAllBreath() {
        SongToBridge x = Check.with("01a");
        for (int s = 0; s < 5; s++) {
            x.singer(0, 1, 6 * s + 6, 1, 0);
            for (int i = 0; i <= s; i++) {
                x.cross(s, 0);
            }
            due("breath that is left", 5 * s + 5, x.told(s, 2));
        }
        x.night();
        for (int s = 0; s < 5; s++) {
            due("breath then", 6 * s + 6, x.told(s, 2));
            due("place then", s % 2 == 0 ? 1 : 0, x.told(s, 0));
        }
    }

    @Says(promise = 0, text = "that which was not USED for longest")
    private static void oldestUseIsForgottenFirst() {
        SongToBridge x = Check.with("01c", "01a", "01f", "01d");
        x.singer(0, 0b101101, 30, 1, 0);
        for (int b = 0; b < 4; b++) {
            x.cross(0, b);
        }
        x.cross(0, 0);
        int[] left = {0b101100, 0b001100, 0b000100, 0b000100};
        for (int night = 0; night < left.length; night++) {
            x.night();
            due("left by night " + night, left[night], x.told(0, 1));
        }
    }

    @Says(promise = 0, text = "of like ones, and those never USED, the least; never USED is longest")
    private static void neverUsedIsForgottenFirst() {
        SongToBridge x = Check.with("01ad", "01b");
        x.singer(0, 63, 30, 1, 0);
        x.cross(0, 0);
        x.cross(0, 1);
        int[] forgotten = {2, 4, 5, 0, 3};
        for (int verse : forgotten) {
            due("which one", verse, x.told(0, 6));
            due("night", 1, x.night());
        }
        due("the last", 1, x.told(0, 6));
        due("no more", 0, x.night());
        due("what is left", 0b000010, x.told(0, 1));
    }

    @Says(promise = 0, text = "of like ones, and those never USED, the least")
    private static void likeOnesWereUsedTogether() {
        SongToBridge x = Check.with("01fedcb", "01a");
        x.singer(0, 63, 30, 1, 0);
        x.cross(0, 0);
        x.cross(0, 1);
        for (int verse = 1; verse <= 5; verse++) {
            due("which one", verse, x.told(0, 6));
            x.night();
        }
        due("the last", 0, x.told(0, 6));
    }

    @Says(promise = 0, text = "that which was not USED for longest")
    private static void useOfEarlierDaysCounts() {
        SongToBridge x = Check.with("01b", "01a", "01c");
        x.singer(0, 0b000111, 2, 3, 0);
        x.cross(0, 0);
        x.night();
        x.cross(0, 1);
        x.night();
        x.cross(0, 2);
        due("b of the first day", 1, x.told(0, 6));
        x.cross(0, 0);
        due("a of the second day", 0, x.told(0, 6));
    }

    @Says(promise = 16, text = "A NIGHT")
    private static void nightLeavesAllElse() {
        SongToBridge x = Check.full();
        long[] before = {x.count(0), x.count(1), x.count(2), x.count(3), x.count(4), x.told(0, 5), x.told(0, 0)};
        x.night();
        long[] then = {x.count(0), x.count(1), x.count(2), x.count(3), x.count(4), x.told(0, 5), x.told(0, 0)};
        for (int i = 0; i < before.length; i++) {
            due("number " + i, before[i], then[i]);
        }
    }
}
