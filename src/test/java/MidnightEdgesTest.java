import java.io.IOException;

/** Promises 22 to 25 at their edges; each method holds the class to one sentence of the document. */
public final class MidnightEdgesTest {
    private static final int UNKNOWN = Check.UNKNOWN, OUTSIDE = Check.OUTSIDE, FULL = Check.FULL;

    public static void main(String[] args) throws IOException {
        Check.runAll(MidnightEdgesTest.class);
    }

    private static void due(String what, long want, long got) {
        Check.due(what, want, got);
    }

    // ---- heard

    @Says(promise = 0, text = "HEARD (10 at most)")
    private static void tenAreHeard() {
        SongToBridge x = Check.with("01a", "01b");
        for (int i = 0; i < 10; i++) {
            due("count(3)", i, x.count(3));
            due("heard, the so-manieth", i + 1, x.heard(i % 2));
        }
        due("an eleventh", FULL, x.heard(0));
        due("an eleventh again", FULL, x.heard(1));
        due("count(3)", 10, x.count(3));
    }

    @Says(promise = 22, text = "UNKNOWN; FULL.")
    private static void heardRefusalsInOrder() {
        Check.refused("heard(-1)", UNKNOWN, Check::some, x -> x.heard(-1));
        Check.refused("heard(4)", UNKNOWN, Check::some, x -> x.heard(4));
        Check.refused("an eleventh", FULL, Check::full, x -> x.heard(0));
        Check.refused("an eleventh", FULL, Check::full, x -> x.heard(8));
        Check.refused("an eleventh of no bridge", UNKNOWN, Check::full, x -> x.heard(9));
        Check.refused("an eleventh of no bridge", UNKNOWN, Check::full, x -> x.heard(-1));
        for (int n : Check.FAR) {
            Check.refused("heard(" + n + ")", UNKNOWN, Check::some, x -> x.heard(n));
            Check.refused("an eleventh " + n, UNKNOWN, Check::full, x -> x.heard(n));
        }
    }

    @Says(promise = 22, text = "A BRIDGE was HEARD behind the others: how many.")
    private static void eachNumberIsHeard() {
        SongToBridge x = Check.full();
        x.hush();
        for (int b = 0; b < 9; b++) {
            due("heard(" + b + ")", b + 1, x.heard(b));
        }
        due("the tenth", 10, x.heard(8));
    }

    @Says(promise = 22, text = "A BRIDGE was HEARD behind the others")
    private static void orderOfTheHeardTells() {
        SongToBridge x = Check.with("01a", "12a", "23a");
        x.singer(0, 1, 30, 1, 0);
        Check.hear(x, 0, 1, 2);
        due("in order", 1, x.who());
        Check.hear(x, 0, 2, 1);
        due("out of order", 0, x.who());
        Check.hear(x, 2, 1, 0);
        due("backwards", 1, x.who());
    }

    // ---- hush

    @Says(promise = 23, text = "Nothing was HEARD any more: how many were.")
    private static void hushOfNoneToTen() {
        SongToBridge x = Check.with("01a");
        for (int n = 0; n <= 10; n++) {
            for (int i = 0; i < n; i++) {
                x.heard(0);
            }
            due("hush() of " + n, n, x.hush());
            due("count(3)", 0, x.count(3));
            due("hush() again", 0, x.hush());
        }
    }

    @Says(promise = 23, text = "Nothing was HEARD any more")
    private static void tenAreHeardAgain() {
        SongToBridge x = Check.full();
        due("hush()", 10, x.hush());
        for (int i = 1; i <= 10; i++) {
            due("heard again", i, x.heard(0));
        }
        due("an eleventh", FULL, x.heard(0));
    }

    @Says(promise = 23, text = "Nothing was HEARD any more")
    private static void hushLeavesAllElse() {
        SongToBridge x = Check.with("01a");
        x.singer(0, 1, 9, 1, 9);
        long before = x.digest();
        x.heard(0);
        x.hush();
        due("the digest", before, x.digest());
    }

    // ---- who

    @Says(promise = 0, text = "WHO: all SINGERS who can SING all of them")
    private static void whoOfNothingHeard() {
        SongToBridge x = Check.with("01a");
        for (int s = 0; s <= 5; s++) {
            due("who() of " + s + " singers", (1 << s) - 1, x.who());
            x.singer(s % 6, 0, 0, 1, 0);
        }
    }

    @Says(promise = 0, text = "WHO: all SINGERS who can SING all of them")
    private static void whoCanSingAllOfThem() {
        SongToBridge x = Check.with("01a", "12b", "23?ab", "34~cd");
        int[] verses = {0b000011, 0b000001, 0b000010, 0, 0b100000};
        for (int known : verses) {
            x.singer(0, known, 30, 6, 0);
        }
        int[][] heard = {{0}, {1}, {2}, {3}, {0, 1}, {1, 2}, {0, 1, 2, 3}, {2, 3}};
        int[] who = {0b00011, 0b00101, 0b00111, 0b10111, 0b00001, 0b00101, 0b00001, 0b00111};
        for (int i = 0; i < heard.length; i++) {
            Check.hear(x, heard[i]);
            due("who() of case " + i, who[i], x.who());
        }
    }

    @Says(promise = 0, text = "and have BREATH (all of a day) for all LENGTHS together")
    private static void whoHasJustEnoughBreath() {
        SongToBridge x = Check.with("01abcde", "12!aabba");
        int[] breaths = {6, 7, 8, 11, 12};
        for (int breath : breaths) {
            x.singer(0, 63, breath, 6, 0);
        }
        Check.hear(x, 0, 1);
        due("7 together", 0b11110, x.who());
        Check.hear(x, 1, 1, 1, 1);
        due("8 together", 0b11100, x.who());
        Check.hear(x, 0, 0, 1);
        due("12 together", 0b10000, x.who());
        Check.hear(x, 0, 0, 0);
        due("15 together", 0, x.who());
    }

    @Says(promise = 0, text = "and have BREATH (all of a day) for all LENGTHS together")
    private static void whoOfTheLongestNight() {
        SongToBridge x = Check.with("01abcde", "01abc");
        x.singer(0, 63, 30, 6, 0);
        x.singer(0, 63, 29, 6, 0);
        Check.hear(x, 0, 0, 0, 0, 0, 0);
        due("30 together", 0b01, x.who());
        Check.hear(x, 1, 1, 1, 1, 1, 1, 1, 1, 1, 1);
        due("ten, 30 together", 0b01, x.who());
        Check.hear(x, 0, 0, 0, 0, 0, 0, 0, 0, 0, 0);
        due("ten, 50 together", 0, x.who());
    }

    @Says(promise = 0, text = "BREATH (all of a day)")
    private static void whoLooksAtTheBreathOfADay() {
        SongToBridge x = Check.with("01ab");
        x.singer(0, 0b000011, 4, 6, 0);
        x.cross(0, 0);
        x.cross(0, 0);
        due("no breath is left", 0, x.told(0, 2));
        Check.hear(x, 0, 0);
        due("of a day it has enough", 1, x.who());
    }

    @Says(promise = 0, text = "on one way without a break (from any PLACE, either way)")
    private static void whoFromAnyPlace() {
        for (int from = 0; from < 6; from++) {
            int to = (from + 1) % 6;
            SongToBridge x = Check.with("" + from + to + "a");
            x.singer((from + 3) % 6, 1, 3, 1, 0);
            Check.hear(x, 0);
            due("once", 1, x.who());
            Check.hear(x, 0, 0);
            due("there and back", 1, x.who());
            Check.hear(x, 0, 0, 0);
            due("thrice", 1, x.who());
        }
    }

    @Says(promise = 0, text = "on one way without a break (from any PLACE, either way)")
    private static void whoEitherWay() {
        String[][] pairs = {{"01a", "12a"}, {"10a", "12a"}, {"01a", "21a"}, {"10a", "21a"}};
        for (String[] pair : pairs) {
            SongToBridge x = Check.with(pair);
            x.singer(5, 1, 30, 1, 0);
            Check.hear(x, 0, 1);
            due(pair[0] + " and " + pair[1], 1, x.who());
            Check.hear(x, 1, 0);
            due(pair[1] + " and " + pair[0], 1, x.who());
        }
    }

    @Says(promise = 0, text = "none, if there is no such way")
    private static void whoOfABreak() {
        SongToBridge x = Check.with("01a", "12a", "23a", "45a", "10a");
        x.singer(0, 1, 30, 1, 0);
        x.singer(4, 63, 30, 1, 0);
        int[][] broken = {{0, 2}, {0, 3}, {0, 1, 0}, {0, 1, 2, 1, 3}, {0, 0, 2}, {0, 4, 2}, {0, 1, 4}, {3, 0},
            {0, 0, 0, 0, 0, 0, 0, 0, 0, 3}};
        for (int i = 0; i < broken.length; i++) {
            Check.hear(x, broken[i]);
            due("who() of break " + i, 0, x.who());
        }
        int[][] whole = {{0, 0, 1}, {1, 1, 0}, {0, 4, 1}, {0, 4, 0, 1}, {0, 1, 2, 2, 1, 0}, {4, 1, 2}, {3, 3},
            {0, 0, 0, 0, 0, 0, 0, 0, 0, 1}};
        for (int i = 0; i < whole.length; i++) {
            Check.hear(x, whole[i]);
            due("who() of way " + i, 0b11, x.who());
        }
    }

    @Says(promise = 0, text = "none, if there is no such way")
    private static void whoOfAWayThatNeedsItsStart() {
        SongToBridge x = Check.with("01a", "01b", "12a");
        x.singer(0, 0b000011, 30, 1, 0);
        Check.hear(x, 0, 1, 2);
        due("from 1 to 0 to 1 to 2", 1, x.who());
        Check.hear(x, 2, 0, 1, 2);
        due("from 2 to 1 to 0 to 1 to 2", 1, x.who());
        Check.hear(x, 2, 0, 2);
        due("at 0, not at 1 or 2", 0, x.who());
    }

    @Says(promise = 0, text = "WHO: all SINGERS")
    private static void whoSingsTheSongAsItIsNow() {
        SongToBridge x = Check.with("01a");
        x.singer(0, 0b000001, 1, 1, 0);
        Check.hear(x, 0);
        due("before", 1, x.who());
        x.change(0, 0, 1);
        due("another song", 0, x.who());
        x.change(0, 0, 0);
        due("as before", 1, x.who());
    }

    @Says(promise = 24, text = "WHO, as bits.")
    private static void whoChangesNothing() {
        Check.asks("who()", Check::some, SongToBridge::who);
        Check.asks("who() of ten", Check::full, SongToBridge::who);
    }

    // ---- wander

    /** Five bridges from place 0 of lengths 1, 2, 3, 1, 2, and one who can sing them all. */
    private static SongToBridge star() {
        SongToBridge x = Check.with("01a", "02ab", "03abc", "40b", "50bc");
        x.singer(0, 0b000111, 30, 6, 0);
        return x;
    }

    private static void dueWander(SongToBridge x, int turns, int seed, int... want) {
        for (int what = 0; what < 4; what++) {
            due("wander(0, " + turns + ", " + seed + ", " + what + ")", want[what], x.wander(0, turns, seed, what));
        }
    }

    @Says(promise = 0, text = "1103515245 times it and 12345, its rest by 2 to the 31; then that by 65536 (rounded down), its rest")
    private static void drawsAreAsTold() {
        SongToBridge x = star();
        dueWander(x, 1, 0, 1, 29, 1, 12345);
        dueWander(x, 2, 0, 0, 28, 2, 1406932606);
        dueWander(x, 3, 0, 4, 27, 3, 654583775);
        dueWander(x, 10, 0, 0, 16, 10, 551188310);
        dueWander(x, 1, 1, 4, 29, 1, 1103527590);
        dueWander(x, 10, 1, 0, 14, 10, 267834847);
        dueWander(x, 3, 7, 4, 25, 3, 712265938);
    }

    @Says(promise = 0, text = "its rest by 2 to the 31")
    private static void seedWrapsAround() {
        SongToBridge x = star();
        dueWander(x, 1, 2147483647, 5, 28, 1, 1043980748);
        dueWander(x, 3, 2147483647, 3, 23, 3, 646343466);
        dueWander(x, 10, 2147483647, 0, 10, 10, 834541773);
        dueWander(x, 1, 2147483646, 5, 28, 1, 2087949151);
        dueWander(x, 3, 2147483646, 2, 24, 3, 638103157);
        dueWander(x, 2, 1073741824, 0, 26, 2, 333190782);
        dueWander(x, 3, 1073741824, 3, 23, 3, 1728325599);
    }

    @Says(promise = 25, text = "OUTSIDE: turns (1 to 60)")
    private static void turnsFromOneToSixty() {
        SongToBridge x = star();
        due("0 turns", OUTSIDE, x.wander(0, 0, 7, 2));
        due("1 turn", 1, x.wander(0, 1, 7, 2));
        due("2 turns", 2, x.wander(0, 2, 7, 2));
        dueWander(x, 59, 7, 0, 0, 22, 1210267081);
        dueWander(x, 60, 7, 0, 0, 22, 1210267081);
        due("61 turns", OUTSIDE, x.wander(0, 61, 7, 2));
    }

    @Says(promise = 0, text = "it waits (without a DRAW), if there is none")
    private static void waitsWithoutBreath() {
        SongToBridge x = Check.with("01a", "02b", "03c", "04d", "05e");
        x.singer(0, 0b011111, 30, 6, 0);
        dueWander(x, 29, 0, 5, 1, 29, 1588911645);
        dueWander(x, 30, 0, 0, 0, 30, 371038354);
        dueWander(x, 31, 0, 0, 0, 30, 371038354);
        dueWander(x, 60, 0, 0, 0, 30, 371038354);
        dueWander(x, 60, 2147483647, 0, 0, 30, 1202922041);
    }

    @Says(promise = 0, text = "it waits (without a DRAW), if there is none")
    private static void waitsFromTheFirstTurn() {
        SongToBridge noBridge = new SongToBridge();
        noBridge.singer(3, 63, 30, 6, 0);
        dueWander(noBridge, 1, 5, 3, 30, 0, 5);
        dueWander(noBridge, 60, 2147483647, 3, 30, 0, 2147483647);
        SongToBridge lacking = Check.with("01b", "01ab");
        lacking.singer(0, 0b000001, 30, 6, 0);
        dueWander(lacking, 60, 0, 0, 30, 0, 0);
        SongToBridge breathless = Check.with("01ab");
        breathless.singer(0, 0b000011, 1, 6, 0);
        dueWander(breathless, 60, 9, 0, 1, 0, 9);
        SongToBridge elsewhere = Check.with("12a");
        elsewhere.singer(0, 0b000001, 9, 6, 0);
        dueWander(elsewhere, 60, 9, 0, 9, 0, 9);
    }

    @Says(promise = 0, text = "it crosses one of the BRIDGES that it MAY cross (in order), by a DRAW of how many there are")
    private static void drawOfOneIsADrawToo() {
        SongToBridge x = Check.with("23!aaaaa", "01a");
        x.singer(0, 0b000001, 30, 6, 0);
        dueWander(x, 1, 0, 1, 29, 1, 12345);
        dueWander(x, 2, 0, 0, 28, 2, 1406932606);
        dueWander(x, 3, 0, 1, 27, 3, 654583775);
    }

    @Says(promise = 0, text = "it crosses one of the BRIDGES that it MAY cross (in order)")
    private static void drawOfNine() {
        SongToBridge x = Check.with("01a", "02a", "03a", "04a", "05a", "01a", "02a", "03a", "04a");
        x.singer(0, 0b000001, 30, 6, 0);
        dueWander(x, 1, 0, 1, 29, 1, 12345);
        dueWander(x, 5, 0, 2, 25, 5, 229283573);
        dueWander(x, 1, 3, 4, 29, 1, 1163074432);
        dueWander(x, 5, 3, 4, 25, 5, 1351511980);
        dueWander(x, 60, 3, 0, 0, 30, 22870941);
        dueWander(x, 3, 2147483647, 3, 27, 3, 646343466);
    }

    @Says(promise = 0, text = "BRIDGES that it MAY cross (in order)")
    private static void bridgesThatItMayNotAreNotCounted() {
        SongToBridge x = Check.with("01f", "02a", "34a", "03ab", "04a");
        x.singer(0, 0b000001, 30, 6, 0);
        due("the first of two", 2, x.wander(0, 1, 0, 0));
        due("the second of two", 4, x.wander(0, 1, 5, 0));
        due("the second of two", 4, x.wander(0, 1, 2147483647, 0));
        due("the first of two", 2, x.wander(0, 1, 1, 0));
    }

    @Says(promise = 25, text = "seed (0 at least)")
    private static void seedsFromZero() {
        SongToBridge x = star();
        due("seed 0", 12345, x.wander(0, 1, 0, 3));
        due("the greatest seed", 1043980748, x.wander(0, 1, Integer.MAX_VALUE, 3));
        for (int seed : new int[] {-1, -2, Integer.MIN_VALUE, Integer.MIN_VALUE + 1}) {
            Check.refused("seed " + seed, OUTSIDE, MidnightEdgesTest::star, y -> y.wander(0, 1, seed, 3));
        }
    }

    @Says(promise = 25, text = "UNKNOWN; OUTSIDE: turns (1 to 60), seed (0 at least), what.")
    private static void wanderRefusals() {
        Check.refused("wander(-1, 1, 0, 0)", UNKNOWN, Check::some, x -> x.wander(-1, 1, 0, 0));
        Check.refused("wander(3, 1, 0, 0)", UNKNOWN, Check::some, x -> x.wander(3, 1, 0, 0));
        Check.refused("wander(5, 1, 0, 0)", UNKNOWN, Check::full, x -> x.wander(5, 1, 0, 0));
        Check.refused("wander(0, 0, 0, 0)", OUTSIDE, Check::some, x -> x.wander(0, 0, 0, 0));
        Check.refused("wander(0, -1, 0, 0)", OUTSIDE, Check::some, x -> x.wander(0, -1, 0, 0));
        Check.refused("wander(0, 61, 0, 0)", OUTSIDE, Check::some, x -> x.wander(0, 61, 0, 0));
        Check.refused("wander(0, 1, 0, -1)", OUTSIDE, Check::some, x -> x.wander(0, 1, 0, -1));
        Check.refused("wander(0, 1, 0, 4)", OUTSIDE, Check::some, x -> x.wander(0, 1, 0, 4));
        Check.refused("wander(3, 0, 0, 0)", UNKNOWN, Check::some, x -> x.wander(3, 0, 0, 0));
        Check.refused("wander(3, 1, -1, 0)", UNKNOWN, Check::some, x -> x.wander(3, 1, -1, 0));
        Check.refused("wander(3, 1, 0, 4)", UNKNOWN, Check::some, x -> x.wander(3, 1, 0, 4));
        for (int n : Check.FAR) {
            Check.refused("wander(" + n + ", 1, 0, 0)", UNKNOWN, Check::full, x -> x.wander(n, 1, 0, 0));
            Check.refused("wander(0, " + n + ", 0, 0)", OUTSIDE, Check::full, x -> x.wander(0, n, 0, 0));
            Check.refused("wander(0, 1, 0, " + n + ")", OUTSIDE, Check::full, x -> x.wander(0, 1, 0, n));
            Check.refused("wander(" + n + ", 0, -1, 4)", UNKNOWN, Check::full, x -> x.wander(n, 0, -1, 4));
        }
        due("wander(4, 1, 0, 2)", 1, Check.full().wander(4, 1, 0, 2));
    }

    @Says(promise = 0, text = "One WANDERS so many TURNS by a SEED (as it would be)")
    private static void wanderChangesNothing() {
        for (int what = 0; what < 4; what++) {
            int asked = what;
            Check.asks("wander(0, 60, 3, " + what + ")", Check::some, x -> x.wander(0, 60, 3, asked));
            Check.asks("wander(4, 1, 3, " + what + ")", Check::full, x -> x.wander(4, 1, 3, asked));
        }
        SongToBridge x = star();
        x.wander(0, 60, 7, 0);
        due("its place", 0, x.told(0, 0));
        due("its breath", 30, x.told(0, 2));
        due("what it would forget", 0, x.told(0, 6));
    }

    @Says(promise = 25, text = "1 BREATH that is left")
    private static void wandersFromWhereItIsWithWhatIsLeft() {
        SongToBridge x = Check.with("01a", "12b");
        x.singer(0, 0b000001, 3, 6, 0);
        x.cross(0, 0);
        dueWander(x, 1, 0, 0, 1, 1, 12345);
        dueWander(x, 2, 0, 1, 0, 2, 1406932606);
        dueWander(x, 3, 0, 1, 0, 2, 1406932606);
        x.cross(0, 0);
        x.cross(0, 0);
        dueWander(x, 60, 4, 1, 0, 0, 4);
        x.night();
        dueWander(x, 60, 0, 0, 0, 3, 654583775);
    }
}
