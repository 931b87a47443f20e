import java.io.IOException;

/** Promises 17 to 21 at their edges; each method holds the class to one sentence of the document. */
public final class WayEdgesTest {
    private static final int NONE = Check.NONE, UNKNOWN = Check.UNKNOWN, OUTSIDE = Check.OUTSIDE;

    public static void main(String[] args) throws IOException {
        Check.runAll(WayEdgesTest.class);
    }

    private static void due(String what, long want, long got) {
        Check.due(what, want, got);
    }

    /** One singer at place 0 with these verses and this breath. */
    private static SongToBridge walker(int verses, int breath, String... bridges) {
        SongToBridge x = Check.with(bridges);
        x.singer(0, verses, breath, 6, 99);
        return x;
    }

    /** One singer at place 0 without breath, who knows none and has this purse. */
    private static SongToBridge pupil(int purse, String... bridges) {
        SongToBridge x = Check.with(bridges);
        x.singer(0, 0, 0, 1, purse);
        return x;
    }

    private static void dueHome(String what, int breath, int bridge, SongToBridge x, int place) {
        due(what + ": breath", breath, x.home(0, place, 0));
        due(what + ": first bridge", bridge, x.home(0, place, 1));
    }

    private static void dueCheapest(String what, int fees, int verses, SongToBridge x, int place) {
        due(what + ": fees", fees, x.cheapest(0, place, 0));
        due(what + ": verses", verses, x.cheapest(0, place, 1));
    }

    private static void dueChoir(String what, int many, int which, SongToBridge x, int a, int b) {
        due(what + ": how many", many, x.choir(a, b, 0));
        due(what + ": which", which, x.choir(a, b, 1));
    }

    // ---- home

    @Says(promise = 0, text = "by BRIDGES (0: it is there)")
    private static void homeWhereItIs() {
        for (int place = 0; place < 6; place++) {
            SongToBridge x = new SongToBridge();
            x.singer(place, 0, 0, 1, 0);
            for (int to = 0; to < 6; to++) {
                dueHome("from " + place + " to " + to, to == place ? 0 : NONE, NONE, x, to);
            }
        }
    }

    @Says(promise = 17, text = "1 by which BRIDGE first (NONE: it is there)")
    private static void homeWhereItIsAsksNoBridge() {
        dueHome("there, with bridges", 0, NONE, walker(63, 30, "01a", "10b"), 0);
    }

    @Says(promise = 17, text = "1 by which BRIDGE first (NONE: it is there)")
    private static void homeWhereItIsWithNineBridges() {
        SongToBridge x = walker(63, 30, "01a", "02a", "03a", "04a", "05a", "10a", "20a", "30a", "40!aa");
        dueHome("there, with nine bridges", 0, NONE, x, 0);
        dueHome("of the fourth and the ninth by the lesser", 1, 3, x, 4);
        x.change(3, 0, 1);
        x.singer(0, 0b000001, 1, 1, 0);
        due("by the ninth alone", 8, x.home(1, 4, 1));
        due("there, without breath for any", NONE, breathlessAmongNine().home(0, 0, 1));
    }

    private static SongToBridge breathlessAmongNine() {
        return walker(63, 0, "01a", "02a", "03a", "04a", "05a", "10a", "20a", "30a", "40a");
    }

    @Says(promise = 0, text = "none, if that is more than it has left")
    private static void homeWithJustEnoughBreath() {
        for (int breath = 0; breath <= 9; breath++) {
            SongToBridge x = walker(63, breath, "01abc", "12abcd");
            dueHome("one bridge with " + breath, breath >= 3 ? 3 : NONE, breath >= 3 ? 0 : NONE, x, 1);
            dueHome("two bridges with " + breath, breath >= 7 ? 7 : NONE, breath >= 7 ? 0 : NONE, x, 2);
        }
    }

    @Says(promise = 0, text = "none, if that is more than it has left")
    private static void homeWithTheBreathThatIsLeft() {
        SongToBridge x = walker(63, 6, "01ab", "12ab", "23ab");
        dueHome("all", 6, 0, x, 3);
        x.cross(0, 0);
        dueHome("from the next place", 4, 1, x, 3);
        x.cross(0, 0);
        dueHome("from the first place again", NONE, NONE, x, 3);
        dueHome("just so far", NONE, NONE, x, 2);
        dueHome("no further", 2, 0, x, 1);
        x.night();
        dueHome("by night", 6, 0, x, 3);
    }

    @Says(promise = 0, text = "the least BREATH with which one can come from its PLACE to another one by BRIDGES")
    private static void homeByMoreBridgesForLessBreath() {
        dueHome("five against four", 4, 1, walker(63, 30, "05abcde", "01a", "12a", "23a", "35a"), 5);
        dueHome("an echo for one", 1, 1, walker(63, 30, "01ab", "01!aaaaa"), 1);
        dueHome("four against five", 4, 0, walker(63, 30, "05abcd", "01a", "12a", "23a", "34a", "45a"), 5);
    }

    @Says(promise = 0, text = "the least BREATH with which one can come from its PLACE to another one by BRIDGES")
    private static void homeAcrossAllPlaces() {
        SongToBridge x = walker(63, 25, "01abcde", "12abcde", "23abcde", "34abcde", "45abcde");
        dueHome("the longest way", 25, 0, x, 5);
        SongToBridge y = walker(63, 24, "01abcde", "12abcde", "23abcde", "34abcde", "45abcde");
        dueHome("one breath less", NONE, NONE, y, 5);
        due("reach with one breath less", 0b011111, y.reach(0));
        SongToBridge back = walker(63, 25, "54abcde", "43abcde", "32abcde", "21abcde", "10abcde");
        dueHome("told the other way round", 25, 4, back, 5);
    }

    @Says(promise = 0, text = "with VERSES that it knows")
    private static void homeByWhatItCanSing() {
        dueHome("lacking", NONE, NONE, walker(0b000001, 30, "01b"), 1);
        dueHome("known", 1, 0, walker(0b000010, 30, "01b"), 1);
        dueHome("the longer one that it can sing", 3, 1, walker(0b000010, 30, "01a", "01bbb"), 1);
        dueHome("deaf", 2, 0, walker(0b000010, 30, "01?ab"), 1);
        dueHome("deaf, two lacking", NONE, NONE, walker(0b100000, 30, "01?ab"), 1);
        dueHome("worn", 3, 0, walker(0b000100, 30, "01~abc"), 1);
        dueHome("deaf, it knows none", NONE, NONE, walker(0, 30, "01?a"), 1);
    }

    @Says(promise = 0, text = "By which BRIDGE first: of all such ways that with the least.")
    private static void homeOfLikeWaysByTheLeastBridge() {
        dueHome("two alike", 1, 0, walker(63, 30, "01a", "01b"), 1);
        dueHome("told the other way round", 1, 0, walker(63, 30, "10a", "01b"), 1);
        dueHome("two against one", 2, 0, walker(63, 30, "02a", "01ab", "21a"), 1);
        dueHome("one against two", 2, 0, walker(63, 30, "01ab", "02a", "21a"), 1);
        dueHome("the least first, not the least then", 2, 1, walker(63, 30, "31a", "02a", "03a", "21a"), 1);
        dueHome("the last alone is as short", 1, 8, walker(63, 30, "01ab", "01ab", "01ab", "01ab", "01ab", "01ab",
            "01ab", "01ab", "01f"), 1);
        dueHome("a lesser one that it can't sing", 1, 1, walker(0b000010, 30, "01a", "01b"), 1);
        dueHome("a lesser one that leads elsewhere", 1, 1, walker(63, 30, "02a", "01a"), 1);
    }

    @Says(promise = 17, text = "NONE: none. UNKNOWN: singer, place; OUTSIDE.")
    private static void homeRefusals() {
        Check.refused("home(-1, 0, 0)", UNKNOWN, Check::some, x -> x.home(-1, 0, 0));
        Check.refused("home(3, 0, 0)", UNKNOWN, Check::some, x -> x.home(3, 0, 0));
        Check.refused("home(5, 0, 0)", UNKNOWN, Check::full, x -> x.home(5, 0, 0));
        Check.refused("home(0, -1, 0)", UNKNOWN, Check::some, x -> x.home(0, -1, 0));
        Check.refused("home(0, 6, 0)", UNKNOWN, Check::some, x -> x.home(0, 6, 0));
        Check.refused("home(0, 0, -1)", OUTSIDE, Check::some, x -> x.home(0, 0, -1));
        Check.refused("home(0, 0, 2)", OUTSIDE, Check::some, x -> x.home(0, 0, 2));
        Check.refused("home(3, 0, 2)", UNKNOWN, Check::some, x -> x.home(3, 0, 2));
        Check.refused("home(0, 6, 2)", UNKNOWN, Check::some, x -> x.home(0, 6, 2));
        for (int n : Check.FAR) {
            Check.refused("home(" + n + ", 0, 0)", UNKNOWN, Check::full, x -> x.home(n, 0, 0));
            Check.refused("home(0, " + n + ", 0)", UNKNOWN, Check::full, x -> x.home(0, n, 0));
            Check.refused("home(0, 0, " + n + ")", OUTSIDE, Check::full, x -> x.home(0, 0, n));
            Check.refused("home(" + n + ", 0, " + n + ")", UNKNOWN, Check::full, x -> x.home(n, 0, n));
        }
        due("home(4, 3, 0)", 0, Check.full().home(4, 3, 0));
        due("home(4, 4, 1)", 4, Check.full().home(4, 4, 1));
    }

    @Says(promise = 17, text = "HOME: what = 0 BREATH, 1 by which BRIDGE first")
    private static void homeChangesNothing() {
        for (int place = 0; place < 6; place++) {
            int to = place;
            Check.asks("home(0, " + to + ", 0)", Check::some, x -> x.home(0, to, 0));
            Check.asks("home(0, " + to + ", 1)", Check::some, x -> x.home(0, to, 1));
        }
    }

    // ---- reach

    @Says(promise = 0, text = "REACH: all PLACES with a HOME.")
    private static void reachOfItsOwnPlaceAlone() {
        for (int place = 0; place < 6; place++) {
            SongToBridge x = Check.with("01a", "12a", "23a", "34a", "45a");
            x.singer(place, 0, 30, 1, 0);
            x.singer(place, 63, 0, 1, 0);
            due("one who knows none", 1 << place, x.reach(0));
            due("one without breath", 1 << place, x.reach(1));
        }
    }

    @Says(promise = 0, text = "REACH: all PLACES with a HOME.")
    private static void reachBreathByBreath() {
        int[] places = {0b000001, 0b000011, 0b000011, 0b000111, 0b001111, 0b001111, 0b011111, 0b111111, 0b111111};
        for (int breath = 0; breath < places.length; breath++) {
            SongToBridge x = walker(63, breath, "01a", "12ab", "23a", "34ab", "45a");
            due("reach with breath " + breath, places[breath], x.reach(0));
        }
    }

    @Says(promise = 0, text = "REACH: all PLACES with a HOME.")
    private static void reachIsWhereHomeTells() {
        SongToBridge x = Check.full();
        for (int s = 0; s < 5; s++) {
            int places = 0;
            for (int place = 0; place < 6; place++) {
                places |= x.home(s, place, 0) == NONE ? 0 : 1 << place;
            }
            due("reach(" + s + ")", places, x.reach(s));
        }
    }

    @Says(promise = 18, text = "REACH, as bits. UNKNOWN.")
    private static void reachRefusals() {
        Check.refused("reach(-1)", UNKNOWN, Check::some, x -> x.reach(-1));
        Check.refused("reach(3)", UNKNOWN, Check::some, x -> x.reach(3));
        Check.refused("reach(5)", UNKNOWN, Check::full, x -> x.reach(5));
        for (int n : Check.FAR) {
            Check.refused("reach(" + n + ")", UNKNOWN, Check::full, x -> x.reach(n));
        }
        Check.asks("reach(2)", Check::some, x -> x.reach(2));
        Check.asks("reach(4)", Check::full, x -> x.reach(4));
    }

    // ---- first

    @Says(promise = 0, text = "of VERSES that are taught in its PLACE for no more than its PURSE")
    private static void firstForItsPurse() {
        int[][] cases = {{0, 0, 1}, {0, 1, NONE}, {9, 9, 1}, {9, 10, NONE}, {99, 99, 1}, {98, 99, NONE}};
        for (int[] one : cases) {
            SongToBridge x = Check.with("01b");
            x.singer(0, 0b000001, 1, 6, one[0]);
            x.teach(0, 1, one[1]);
            due("purse " + one[0] + ", fee " + one[1], one[2], x.first(0));
        }
    }

    @Says(promise = 0, text = "VERSES six (a to f; 0 to 5)")
    private static void firstOfEachVerse() {
        for (int v = 0; v < 6; v++) {
            SongToBridge x = walker(63 & ~(1 << v), 30, "01" + (char) ('a' + v));
            x.teach(0, v, 99);
            due("first(0)", v, x.first(0));
        }
    }

    @Says(promise = 0, text = "of VERSES that are taught in its PLACE")
    private static void firstWhereItIs() {
        SongToBridge x = walker(0b000001, 30, "01a", "12b");
        due("nothing is taught", NONE, x.first(0));
        x.teach(1, 1, 0);
        due("taught elsewhere", NONE, x.first(0));
        x.cross(0, 0);
        due("taught there", 1, x.first(0));
        x.teach(1, 1, NONE);
        due("no more taught", NONE, x.first(0));
    }

    @Says(promise = 0, text = "and that it does not know")
    private static void firstOfWhatItDoesNotKnow() {
        SongToBridge x = walker(0b000010, 30, "01b", "12c");
        x.teach(0, 1, 0);
        due("it knows b", NONE, x.first(0));
        x.teach(0, 2, 5);
        due("it does not know c", 2, x.first(0));
        due("learnt", 94, x.learn(0, 2));
        due("then it knows c", NONE, x.first(0));
    }

    @Says(promise = 0, text = "the one with which REACH would have most PLACES, of like ones the least")
    private static void firstOfMostPlaces() {
        SongToBridge x = walker(0, 30, "01b", "02c", "23c", "04f", "45f");
        for (int v = 0; v < 6; v++) {
            x.teach(0, v, v);
        }
        due("c and f lead to two places", 2, x.first(0));
        x.teach(0, 2, NONE);
        due("f", 5, x.first(0));
        x.teach(0, 5, NONE);
        due("b leads to one", 1, x.first(0));
        x.teach(0, 1, NONE);
        due("the others lead to none", NONE, x.first(0));
    }

    @Says(promise = 0, text = "none, if by none it has more than now")
    private static void firstIsNoneIfNoPlaceIsAdded() {
        SongToBridge x = walker(0b000001, 30, "01a", "01b");
        x.teach(0, 1, 0);
        due("a second way adds none", NONE, x.first(0));
        SongToBridge all = walker(0b000001, 30, "01a", "12a", "23a", "34a", "45a", "05f");
        all.teach(0, 5, 0);
        due("all places are reached", NONE, all.first(0));
        SongToBridge lacking = walker(0, 30, "01ab");
        lacking.teach(0, 0, 0);
        lacking.teach(0, 1, 0);
        due("one verse of two", NONE, lacking.first(0));
    }

    @Says(promise = 0, text = "the one with which REACH would have most PLACES")
    private static void firstWithTheBreathThatIsLeft() {
        SongToBridge x = walker(0b000001, 3, "01bbb", "02a");
        x.teach(0, 1, 0);
        due("breath for it", 1, x.first(0));
        x.cross(0, 1);
        x.cross(0, 1);
        due("too little is left", NONE, x.first(0));
        x.night();
        due("by night", 1, x.first(0));
    }

    @Says(promise = 0, text = "the one with which REACH would have most PLACES")
    private static void firstByShorterWays() {
        SongToBridge x = walker(0b000001, 3, "01aaa", "12a", "01b");
        x.teach(0, 1, 0);
        due("a shorter way adds a place behind it", 1, x.first(0));
        SongToBridge deaf = walker(0, 3, "01?f");
        deaf.teach(0, 4, 0);
        due("any verse opens a deaf one", 4, deaf.first(0));
    }

    @Says(promise = 19, text = "FIRST; NONE. UNKNOWN.")
    private static void firstRefusals() {
        Check.refused("first(-1)", UNKNOWN, Check::some, x -> x.first(-1));
        Check.refused("first(3)", UNKNOWN, Check::some, x -> x.first(3));
        Check.refused("first(5)", UNKNOWN, Check::full, x -> x.first(5));
        for (int n : Check.FAR) {
            Check.refused("first(" + n + ")", UNKNOWN, Check::full, x -> x.first(n));
        }
        Check.asks("first(0)", () -> firstAsked(), x -> x.first(0));
        due("first(0)", 1, firstAsked().first(0));
    }

    private static SongToBridge firstAsked() {
        SongToBridge x = walker(0b000101, 9, "01b", "12c");
        x.teach(0, 1, 3);
        x.image();
        return x;
    }

    // ---- cheapest

    @Says(promise = 0, text = "so that one can come to a PLACE")
    private static void cheapestWhereItIs() {
        SongToBridge x = pupil(0);
        for (int place = 0; place < 6; place++) {
            dueCheapest("to " + place, place == 0 ? 0 : NONE, place == 0 ? 0 : NONE, x, place);
        }
    }

    @Says(promise = 0, text = "BREATH and NIGHTS do not matter")
    private static void cheapestWithoutBreathAndMemory() {
        SongToBridge x = Check.with("01abc", "12def");
        x.singer(0, 0, 0, 1, 99);
        for (int v = 0; v < 6; v++) {
            x.teach(0, v, 1);
        }
        dueCheapest("all verses", 6, 63, x, 2);
        SongToBridge far = Check.with("01abcde", "12abcde", "23abcde", "34abcde", "45abcde");
        far.singer(0, 0b011111, 1, 1, 0);
        dueCheapest("much more than all breath", 0, 0, far, 5);
    }

    @Says(promise = 0, text = "so that one can come to a PLACE")
    private static void cheapestAcrossAllPlaces() {
        SongToBridge x = pupil(50, "45a", "34a", "23a", "12a", "01a");
        x.teach(0, 0, 50);
        for (int place = 1; place < 6; place++) {
            dueCheapest("to " + place, 50, 0b000001, x, place);
        }
        SongToBridge y = pupil(15, "45e", "34d", "23c", "12b", "01a");
        for (int v = 0; v < 5; v++) {
            y.teach(v, v, 5 - v);
        }
        dueCheapest("a verse in each place", 15, 0b011111, y, 5);
    }

    @Says(promise = 0, text = "none, if it is more than its PURSE")
    private static void cheapestForItsPurse() {
        int[][] cases = {{0, 0, 0}, {0, 1, NONE}, {50, 50, 50}, {49, 50, NONE}, {99, 99, 99}, {98, 99, NONE}};
        for (int[] one : cases) {
            SongToBridge x = pupil(one[0], "01f");
            x.teach(0, 5, one[1]);
            dueCheapest("purse " + one[0] + ", fee " + one[1], one[2], one[2] == NONE ? NONE : 0b100000, x, 1);
        }
    }

    @Says(promise = 0, text = "none, if it is more than its PURSE")
    private static void cheapestOfSeveralFeesForItsPurse() {
        for (int purse = 97; purse <= 99; purse++) {
            SongToBridge x = pupil(purse, "01ab", "12c");
            x.teach(0, 0, 33);
            x.teach(0, 1, 33);
            x.teach(1, 2, 32);
            dueCheapest("98 of " + purse, purse >= 98 ? 98 : NONE, purse >= 98 ? 0b000111 : NONE, x, 2);
        }
        SongToBridge dear = pupil(99, "01abcde");
        for (int v = 0; v < 5; v++) {
            dear.teach(0, v, 99);
        }
        dueCheapest("495 of 99", NONE, NONE, dear, 1);
    }

    @Says(promise = 0, text = "or by no VERSES")
    private static void cheapestByNoVerses() {
        SongToBridge x = pupil(99, "01a", "12b", "34a");
        for (int i = 0; i < 36; i++) {
            x.teach(i / 6, i % 6, 0);
        }
        dueCheapest("no bridge leads there", NONE, NONE, x, 3);
        dueCheapest("no bridge at all leads there", NONE, NONE, x, 5);
        x.teach(0, 0, NONE);
        dueCheapest("taught but behind it", NONE, NONE, x, 1);
    }

    @Says(promise = 0, text = "a VERSE is learnt where one can come to, the cheapest there")
    private static void cheapestOfThePlacesItCanComeTo() {
        SongToBridge x = pupil(99, "01a", "12b", "23c");
        x.teach(0, 0, 1);
        x.teach(0, 1, 9);
        x.teach(1, 1, 4);
        x.teach(2, 1, 0);
        dueCheapest("b at place 1", 5, 0b000011, x, 2);
        x.teach(1, 1, 9);
        dueCheapest("b at either", 10, 0b000011, x, 2);
        x.teach(0, 1, 3);
        dueCheapest("b at place 0", 4, 0b000011, x, 2);
        dueCheapest("c is taught nowhere", NONE, NONE, x, 3);
    }

    @Says(promise = 0, text = "a VERSE is learnt where one can come to, the cheapest there")
    private static void cheapestByAWayRoundForALesson() {
        SongToBridge x = pupil(99, "01a", "02b");
        x.teach(0, 0, 2);
        x.teach(0, 1, 9);
        x.teach(1, 1, 3);
        dueCheapest("a first, for the sake of b", 5, 0b000011, x, 2);
        x.teach(1, 1, 7);
        dueCheapest("as dear with a: the least bits", 9, 0b000010, x, 2);
        x.teach(1, 1, 8);
        dueCheapest("b alone", 9, 0b000010, x, 2);
    }

    @Says(promise = 0, text = "the least FEES together (as they are;")
    private static void cheapestWithFeesAsTheyAre() {
        SongToBridge x = pupil(99, "01a");
        x.singer(0, 0, 0, 1, 99);
        x.teach(0, 0, 5);
        dueCheapest("before", 5, 1, x, 1);
        x.learn(1, 0);
        dueCheapest("when another has learnt it", 6, 1, x, 1);
        due("asking leaves the fee", 6, x.teach(0, 0, 6));
    }

    @Says(promise = 0, text = "which VERSES: of like ones the least bits")
    private static void cheapestOfLikeOnesTheLeastBits() {
        SongToBridge x = pupil(99, "01c", "01b", "01f");
        x.teach(0, 1, 4);
        x.teach(0, 2, 4);
        x.teach(0, 5, 4);
        dueCheapest("b, c, f", 4, 0b000010, x, 1);
        x.teach(0, 1, 5);
        dueCheapest("c, f", 4, 0b000100, x, 1);
        SongToBridge y = pupil(99, "01c", "01ab");
        y.teach(0, 0, 2);
        y.teach(0, 1, 2);
        y.teach(0, 2, 4);
        dueCheapest("a and b are less than c", 4, 0b000011, y, 1);
    }

    @Says(promise = 0, text = "which VERSES: of like ones the least bits")
    private static void cheapestForNothing() {
        SongToBridge x = pupil(0, "01a", "12b");
        for (int v = 0; v < 6; v++) {
            x.teach(0, v, 0);
            x.teach(1, v, 0);
        }
        dueCheapest("one", 0, 0b000001, x, 1);
        dueCheapest("two", 0, 0b000011, x, 2);
        dueCheapest("no more than are needed", 0, 0, x, 0);
    }

    @Says(promise = 0, text = "which VERSES: of like ones the least bits")
    private static void cheapestTellsWhatIsLearntAlone() {
        SongToBridge x = Check.with("01ab", "01af");
        x.singer(0, 0b000001, 0, 1, 99);
        x.teach(0, 0, 0);
        x.teach(0, 1, 7);
        x.teach(0, 5, 6);
        dueCheapest("f alone", 6, 0b100000, x, 1);
        x.teach(0, 5, 7);
        dueCheapest("b alone", 7, 0b000010, x, 1);
    }

    @Says(promise = 20, text = "NONE: none. UNKNOWN: singer, place; OUTSIDE.")
    private static void cheapestRefusals() {
        Check.refused("cheapest(-1, 0, 0)", UNKNOWN, Check::some, x -> x.cheapest(-1, 0, 0));
        Check.refused("cheapest(3, 0, 0)", UNKNOWN, Check::some, x -> x.cheapest(3, 0, 0));
        Check.refused("cheapest(5, 0, 0)", UNKNOWN, Check::full, x -> x.cheapest(5, 0, 0));
        Check.refused("cheapest(0, -1, 0)", UNKNOWN, Check::some, x -> x.cheapest(0, -1, 0));
        Check.refused("cheapest(0, 6, 0)", UNKNOWN, Check::some, x -> x.cheapest(0, 6, 0));
        Check.refused("cheapest(0, 0, -1)", OUTSIDE, Check::some, x -> x.cheapest(0, 0, -1));
        Check.refused("cheapest(0, 0, 2)", OUTSIDE, Check::some, x -> x.cheapest(0, 0, 2));
        Check.refused("cheapest(3, 0, 2)", UNKNOWN, Check::some, x -> x.cheapest(3, 0, 2));
        Check.refused("cheapest(0, 6, 2)", UNKNOWN, Check::some, x -> x.cheapest(0, 6, 2));
        for (int n : Check.FAR) {
            Check.refused("cheapest(" + n + ", 0, 0)", UNKNOWN, Check::full, x -> x.cheapest(n, 0, 0));
            Check.refused("cheapest(0, " + n + ", 0)", UNKNOWN, Check::full, x -> x.cheapest(0, n, 0));
            Check.refused("cheapest(0, 0, " + n + ")", OUTSIDE, Check::full, x -> x.cheapest(0, 0, n));
            Check.refused("cheapest(0, " + n + ", " + n + ")", UNKNOWN, Check::full, x -> x.cheapest(0, n, n));
        }
        due("cheapest(4, 3, 0)", 0, Check.full().cheapest(4, 3, 0));
    }

    @Says(promise = 20, text = "CHEAPEST: what = 0 FEES, 1 which VERSES are learnt, as bits")
    private static void cheapestChangesNothing() {
        for (int place = 0; place < 6; place++) {
            int to = place;
            Check.asks("cheapest(2, " + to + ", 0)", Check::some, x -> x.cheapest(2, to, 0));
            Check.asks("cheapest(2, " + to + ", 1)", Check::some, x -> x.cheapest(2, to, 1));
        }
    }

    // ---- choir

    @Says(promise = 21, text = "NONE: not even by all.")
    private static void choirOfNobody() {
        SongToBridge x = Check.with("01a");
        for (int i = 0; i < 36; i++) {
            boolean same = i / 6 == i % 6;
            dueChoir("without singers, " + i / 6 + " to " + i % 6, same ? 0 : NONE, same ? 0 : NONE, x, i / 6, i % 6);
        }
    }

    @Says(promise = 21, text = "NONE: not even by all.")
    private static void choirNotEvenByAll() {
        SongToBridge x = Check.with("01abcde", "23f");
        for (int s = 0; s < 4; s++) {
            x.singer(0, 1 << s, 30, 6, 99);
        }
        dueChoir("four of five verses", NONE, NONE, x, 0, 1);
        x.singer(0, 1 << 4, 30, 6, 99);
        dueChoir("all five", 5, 0b11111, x, 0, 1);
        dueChoir("a verse that nobody knows", NONE, NONE, x, 2, 3);
        dueChoir("no bridge leads there", NONE, NONE, x, 0, 4);
    }

    @Says(promise = 0, text = "(wherever they are; BREATH does not matter)")
    private static void choirWhereverTheyAreWithoutBreath() {
        SongToBridge x = Check.with("01abcde", "12abcde");
        x.singer(5, 0b000111, 0, 1, 0);
        x.singer(4, 0b011000, 0, 1, 0);
        dueChoir("there", 2, 0b00011, x, 0, 2);
        dueChoir("and back", 2, 0b00011, x, 2, 0);
    }

    @Says(promise = 0, text = "with which one could come from a PLACE to another one")
    private static void choirAcrossAllPlaces() {
        SongToBridge x = Check.with("45a", "34a", "23a", "12a", "01a");
        x.singer(3, 0b000001, 0, 1, 0);
        dueChoir("from the first to the last", 1, 0b00001, x, 0, 5);
        dueChoir("from the last to the first", 1, 0b00001, x, 5, 0);
    }

    @Says(promise = 0, text = "of like ones the least bits")
    private static void choirOfLikeOnesTheLeastBits() {
        SongToBridge x = Check.with("01ab");
        x.singer(0, 0b000001, 0, 1, 0);
        x.singer(0, 0b000010, 0, 1, 0);
        x.singer(0, 0b000001, 0, 1, 0);
        x.singer(0, 0b000010, 0, 1, 0);
        dueChoir("the first two", 2, 0b00011, x, 0, 1);
        x.singer(0, 0b000011, 0, 1, 0);
        dueChoir("the fewest goes ahead of the least bits", 1, 0b10000, x, 0, 1);
    }

    @Says(promise = 0, text = "the fewest SINGERS")
    private static void choirOfTheFewest() {
        SongToBridge x = Check.with("01abcde", "12f");
        x.singer(0, 0b000001, 0, 1, 0);
        x.singer(0, 0b000110, 0, 1, 0);
        x.singer(0, 0b011000, 0, 1, 0);
        x.singer(0, 0b001111, 0, 1, 0);
        x.singer(0, 0b110000, 0, 1, 0);
        dueChoir("two of five", 2, 0b01100, x, 0, 1);
        dueChoir("two for both bridges", 2, 0b11000, x, 0, 2);
        dueChoir("one for the second", 1, 0b10000, x, 1, 2);
    }

    @Says(promise = 0, text = "who together know VERSES with which one could come from a PLACE to another one")
    private static void choirSingsAsOne() {
        SongToBridge deaf = Check.with("01?abc");
        deaf.singer(0, 0b000001, 0, 1, 0);
        dueChoir("two lacking", NONE, NONE, deaf, 0, 1);
        deaf.singer(0, 0b000010, 0, 1, 0);
        dueChoir("one lacking", 2, 0b00011, deaf, 0, 1);
        SongToBridge worn = Check.with("01~a");
        worn.singer(0, 0, 0, 1, 0);
        dueChoir("one who knows none", NONE, NONE, worn, 0, 1);
        worn.singer(0, 0b100000, 0, 1, 0);
        dueChoir("one who knows another", 1, 0b00010, worn, 0, 1);
    }

    @Says(promise = 0, text = "from a PLACE to another one")
    private static void choirToTheSamePlace() {
        SongToBridge x = Check.full();
        for (int place = 0; place < 6; place++) {
            dueChoir("from " + place + " to itself", 0, 0, x, place, place);
        }
    }

    @Says(promise = 21, text = "UNKNOWN: a, b; OUTSIDE.")
    private static void choirRefusals() {
        Check.refused("choir(-1, 0, 0)", UNKNOWN, Check::some, x -> x.choir(-1, 0, 0));
        Check.refused("choir(6, 0, 0)", UNKNOWN, Check::some, x -> x.choir(6, 0, 0));
        Check.refused("choir(0, -1, 0)", UNKNOWN, Check::some, x -> x.choir(0, -1, 0));
        Check.refused("choir(0, 6, 0)", UNKNOWN, Check::some, x -> x.choir(0, 6, 0));
        Check.refused("choir(6, 6, 0)", UNKNOWN, Check::some, x -> x.choir(6, 6, 0));
        Check.refused("choir(0, 0, -1)", OUTSIDE, Check::some, x -> x.choir(0, 0, -1));
        Check.refused("choir(0, 0, 2)", OUTSIDE, Check::some, x -> x.choir(0, 0, 2));
        Check.refused("choir(6, 0, 2)", UNKNOWN, Check::some, x -> x.choir(6, 0, 2));
        Check.refused("choir(0, 6, 2)", UNKNOWN, Check::some, x -> x.choir(0, 6, 2));
        for (int n : Check.FAR) {
            Check.refused("choir(" + n + ", 0, 0)", UNKNOWN, Check::full, x -> x.choir(n, 0, 0));
            Check.refused("choir(0, " + n + ", 0)", UNKNOWN, Check::full, x -> x.choir(0, n, 0));
            Check.refused("choir(0, 0, " + n + ")", OUTSIDE, Check::full, x -> x.choir(0, 0, n));
            Check.refused("choir(" + n + ", 0, " + n + ")", UNKNOWN, Check::full, x -> x.choir(n, 0, n));
        }
        Check.asks("choir(0, 5, 0)", Check::full, x -> x.choir(0, 5, 0));
        Check.asks("choir(0, 3, 1)", Check::some, x -> x.choir(0, 3, 1));
    }

    @Says(promise = 0, text = "those that come since are gone by restore()")
    private static void choirWithoutThoseWhoAreGone() {
        SongToBridge x = Check.with("01a");
        x.singer(0, 0b000010, 0, 1, 0);
        x.image();
        x.singer(0, 0b000001, 0, 1, 0);
        dueChoir("with the second", 1, 0b00010, x, 0, 1);
        x.restore();
        dueChoir("without", NONE, NONE, x, 0, 1);
    }
}
