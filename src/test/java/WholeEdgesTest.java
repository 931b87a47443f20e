import java.io.IOException;
import java.math.BigInteger;
import java.util.ArrayList;
import java.util.List;

/** Promises 26 to 29, and what is said of all calls, at their edges; each method holds the class to one sentence. */
public final class WholeEdgesTest {
    private static final int NONE = Check.NONE, UNKNOWN = Check.UNKNOWN, OUTSIDE = Check.OUTSIDE,
        STATE = Check.STATE, FULL = Check.FULL;

    public static void main(String[] args) throws IOException {
        Check.runAll(WholeEdgesTest.class);
    }

    private static void due(String what, long want, long got) {
        Check.due(what, want, got);
    }

    // ---- image

    @Says(promise = 26, text = "An IMAGE is kept (one; the latest): how many SINGERS.")
    private static void imageOfNoneToFiveSingers() {
        SongToBridge x = new SongToBridge();
        for (int s = 0; s <= 5; s++) {
            due("image()", s, x.image());
            x.singer(0, 0, 0, 1, 0);
            due("restore()", s, x.restore());
            x.singer(0, 0, 0, 1, 0);
        }
    }

    @Says(promise = 26, text = "(one; the latest)")
    private static void latestImageIsKept() {
        SongToBridge x = new SongToBridge();
        x.image();
        x.singer(1, 1, 1, 1, 1);
        x.image();
        x.singer(2, 2, 2, 2, 2);
        x.image();
        x.singer(3, 3, 3, 3, 3);
        due("restore()", 2, x.restore());
        due("restore() again", 2, x.restore());
        due("the second", 2, x.told(1, 0));
        due("the third", UNKNOWN, x.told(2, 0));
    }

    @Says(promise = 26, text = "(one; the latest)")
    private static void imageOfMoreReplacesOneOfLess() {
        SongToBridge x = Check.with("01a");
        x.image();
        Check.build(x, "12b");
        x.singer(0, 63, 9, 1, 9);
        x.heard(1);
        x.teach(0, 0, 5);
        long more = x.digest();
        x.image();
        x.teach(0, 0, 6);
        x.change(1, 0, 5);
        due("restore() of more", 1, x.restore());
        due("as it was", more, x.digest());
    }

    @Says(promise = 26, text = "An IMAGE is kept")
    private static void imageChangesNothingElse() {
        SongToBridge x = Check.some();
        long before = x.digest();
        x.image();
        due("the digest", before, x.digest());
        for (int night = 0; night < 6; night++) {
            x.night();
        }
        x.restore();
        due("the digest again", before, x.digest());
    }

    // ---- restore

    @Says(promise = 27, text = "STATE: none was kept.")
    private static void restoreWithoutAnImage() {
        Check.refused("of a new object", STATE, SongToBridge::new, SongToBridge::restore);
        Check.refused("of one with bridges", STATE, () -> Check.with("01a", "12b"), SongToBridge::restore);
        SongToBridge x = new SongToBridge();
        x.restore();
        due("then an image", 0, x.image());
        due("then restore()", 0, x.restore());
    }

    @Says(promise = 0, text = "(those that come since are gone by restore())")
    private static void thoseThatCameSinceAreGone() {
        SongToBridge x = Check.full();
        due("restore()", 2, x.restore());
        due("bridges", 3, x.count(0));
        due("singers", 2, x.count(1));
        due("the last bridge", 2, x.about(2, 0));
        due("the first that is gone", UNKNOWN, x.about(3, 0));
        due("the last singer", 1, x.told(1, 0));
        due("the first who is gone", UNKNOWN, x.told(2, 0));
        due("heard that is gone", UNKNOWN, x.heard(3));
        due("may that is gone", UNKNOWN, x.may(0, 3));
        due("may who is gone", UNKNOWN, x.may(2, 0));
    }

    @Says(promise = 0, text = "(those that come since are gone by restore())")
    private static void restoreOfTheEmptyOne() {
        SongToBridge x = new SongToBridge();
        long before = x.digest();
        x.image();
        Check.build(x, "01~abcde");
        x.singer(0, 63, 9, 1, 9);
        x.teach(3, 3, 3);
        x.heard(0);
        x.cross(0, 0);
        due("restore()", 0, x.restore());
        due("the digest", before, x.digest());
        for (int what = 0; what <= 4; what++) {
            due("count(" + what + ")", 0, x.count(what));
        }
    }

    @Says(promise = 0, text = "(those that come since are gone by restore())")
    private static void numbersAreGivenAnew() {
        SongToBridge x = Check.full();
        x.restore();
        for (int b = 3; b < 9; b++) {
            due("bridge " + b, b, Check.build(x, "45!f"));
            due("its length", 1, x.about(b, 4));
            due("its second verse", NONE, x.about(b, 6));
        }
        due("a tenth", FULL, Check.build(x, "45!f"));
        for (int s = 2; s < 5; s++) {
            due("singer " + s, s, x.singer(4, 0b110000, 3, 6, 1));
            due("none of its verses was used", 4, x.told(s, 6));
            due("its breath", 3, x.told(s, 2));
        }
        due("a sixth", FULL, x.singer(0, 0, 0, 1, 0));
    }

    @Says(promise = 0, text = "(those that come since are gone by restore())")
    private static void whatOneWhoIsGoneUsedIsForgotten() {
        SongToBridge x = Check.with("01a", "01b");
        x.image();
        x.singer(0, 0b000011, 9, 1, 0);
        x.cross(0, 0);
        due("who is gone then would forget", 1, x.told(0, 6));
        x.restore();
        x.singer(0, 0b000011, 9, 1, 0);
        due("who comes anew would forget", 0, x.told(0, 6));
        x.cross(0, 1);
        due("and then still", 0, x.told(0, 6));
    }

    @Says(promise = 0, text = "SONGS, all that SINGERS have, FEES, what was HEARD")
    private static void songsAreAsTheyWere() {
        SongToBridge x = Check.with("01!aab", "12~abcde");
        x.image();
        x.change(0, 0, 5);
        x.change(1, 4, 5);
        due("length before", 3, x.about(0, 4));
        x.restore();
        due("the first verse", 0, x.about(0, 5));
        due("length then", 2, x.about(0, 4));
        due("the last verse", 4, x.about(1, 9));
        due("kind", 3, x.about(1, 0));
    }

    @Says(promise = 0, text = "SONGS, all that SINGERS have, FEES, what was HEARD")
    private static void singersAreAsTheyWere() {
        SongToBridge x = Check.with("01a", "01b", "01c");
        x.singer(0, 0b000111, 9, 1, 20);
        x.teach(1, 5, 7);
        x.cross(0, 1);
        x.cross(0, 0);
        x.cross(0, 2);
        x.image();
        x.learn(0, 5);
        x.cross(0, 1);
        x.night();
        x.night();
        x.restore();
        int[] all = {1, 0b000111, 6, 9, 1, 20, 1};
        for (int what = 0; what < all.length; what++) {
            due("told(0, " + what + ")", all[what], x.told(0, what));
        }
        int[] forgotten = {1, 0, 2};
        for (int verse : forgotten) {
            due("what it would forget", verse, x.told(0, 6));
            x.night();
        }
    }

    @Says(promise = 0, text = "SONGS, all that SINGERS have, FEES, what was HEARD")
    private static void feesAreAsTheyWere() {
        SongToBridge x = new SongToBridge();
        for (int i = 0; i < 36; i += 2) {
            x.teach(i / 6, i % 6, i);
        }
        x.image();
        for (int i = 0; i < 36; i++) {
            x.teach(i / 6, i % 6, i % 4 == 0 ? NONE : 99);
        }
        x.restore();
        due("count(2)", 18, x.count(2));
        for (int i = 0; i < 36; i++) {
            due("fee " + i, i % 2 == 0 ? i : NONE, x.teach(i / 6, i % 6, 50));
        }
        x.restore();
        due("count(2) again", 18, x.count(2));
    }

    @Says(promise = 0, text = "SONGS, all that SINGERS have, FEES, what was HEARD")
    private static void heardOnesAreAsTheyWere() {
        SongToBridge x = Check.with("01a", "12a", "23a");
        x.singer(0, 1, 30, 1, 0);
        Check.hear(x, 0, 1, 2, 2, 1, 0, 0, 1, 2, 2);
        long before = x.digest();
        x.image();
        Check.hear(x, 2, 0);
        due("who() with a break", 0, x.who());
        x.restore();
        due("ten", 10, x.count(3));
        due("an eleventh", FULL, x.heard(0));
        due("who()", 1, x.who());
        due("the digest", before, x.digest());
        x.hush();
        x.restore();
        due("ten again", 10, x.hush());
    }

    @Says(promise = 27, text = "It goes on from the IMAGE: how many SINGERS.")
    private static void pageIsNotOfTheImage() {
        SongToBridge x = Check.page("01");
        x.image();
        Check.write(x, "?ab");
        x.restore();
        due("the page goes on", 5, x.count(4));
        due("it is read", 0, x.bridge());
        x.restore();
        due("the page stays empty", 0, x.count(4));
        due("the bridge is gone", 0, x.count(0));
    }

    @Says(promise = 27, text = "It goes on from the IMAGE")
    private static void imageOutlastsWhatComesThen() {
        SongToBridge x = Check.some();
        x.image();
        long before = x.digest();
        for (int again = 0; again < 4; again++) {
            x.cross(0, 1);
            x.change(0, 0, 5);
            x.change(3, 1, 5);
            x.teach(0, 4, 77);
            x.heard(0);
            x.night();
            Check.build(x, "45abcde");
            x.singer(5, 0, 0, 1, 0);
            x.blank();
            Check.write(x, "45?");
            due("restore()", 3, x.restore());
            due("the digest", before, x.digest());
        }
    }

    // ---- count

    @Says(promise = 28, text = "0 BRIDGES, 1 SINGERS, 2 FEES that are told, 3 HEARD ones, 4 letters of THE PAGE")
    private static void countOfTheMost() {
        SongToBridge x = Check.full();
        for (int i = 0; i < 36; i++) {
            x.teach(i / 6, i % 6, i % 2 == 0 ? 0 : 99);
        }
        int[] most = {9, 5, 36, 10, 16};
        for (int what = 0; what < most.length; what++) {
            due("count(" + what + ")", most[what], x.count(what));
        }
    }

    @Says(promise = 28, text = "4 letters of THE PAGE. OUTSIDE.")
    private static void countRefusals() {
        Check.refused("count(-1)", OUTSIDE, Check::some, x -> x.count(-1));
        Check.refused("count(5)", OUTSIDE, Check::some, x -> x.count(5));
        for (int n : Check.FAR) {
            Check.refused("count(" + n + ")", OUTSIDE, Check::some, x -> x.count(n));
        }
        for (int what = 0; what <= 4; what++) {
            int asked = what;
            Check.asks("count(" + what + ")", Check::some, x -> x.count(asked));
        }
    }

    @Says(promise = 28, text = "2 FEES that are told")
    private static void feeOfNothingIsAFee() {
        SongToBridge x = new SongToBridge();
        x.teach(0, 0, 0);
        due("a fee of 0", 1, x.count(2));
        x.teach(0, 0, 99);
        due("told again", 1, x.count(2));
        x.teach(0, 1, NONE);
        due("none", 1, x.count(2));
        x.teach(0, 0, NONE);
        due("no more", 0, x.count(2));
    }

    // ---- digest

    /** The digest by the document's words, without a wrap, and then its rest. */
    private static long digestOf(List<Integer> numbers) {
        BigInteger h = BigInteger.valueOf(599);
        for (int number : numbers) {
            h = h.multiply(BigInteger.valueOf(31)).add(BigInteger.valueOf(number));
        }
        return h.longValue();
    }

    private static List<Integer> numbersOf(SongToBridge x, int[] heard, String page) {
        List<Integer> all = new ArrayList<>();
        for (int b = 0; b < x.count(0); b++) {
            for (int what = 0; what <= 9; what++) {
                all.add(x.about(b, what));
            }
            all.add(x.alike(b));
        }
        for (int s = 0; s < x.count(1); s++) {
            for (int what = 0; what <= 6; what++) {
                all.add(x.told(s, what));
            }
            all.addAll(List.of(x.reach(s), x.first(s), x.cheapest(s, 5, 0), x.cheapest(s, 5, 1)));
        }
        for (int i = 0; i < 36; i++) {
            int fee = x.teach(i / 6, i % 6, NONE);
            x.teach(i / 6, i % 6, fee);
            all.add(fee);
        }
        for (int b : heard) {
            all.add(b);
        }
        all.addAll(List.of(x.who(), x.choir(0, 5, 0), x.choir(0, 5, 1)));
        for (char letter : page.toCharArray()) {
            all.add((int) letter);
        }
        for (int what = 0; what <= 4; what++) {
            all.add(x.count(what));
        }
        return all;
    }

    @Says(promise = 29, text = "(as longs, wrapping)")
    private static void digestOfANewObjectWraps() {
        List<Integer> all = new ArrayList<>();
        for (int i = 0; i < 36; i++) {
            all.add(NONE);
        }
        all.addAll(List.of(0, NONE, NONE, 0, 0, 0, 0, 0));
        due("digest()", digestOf(all), new SongToBridge().digest());
    }

    @Says(promise = 29, text = "(as longs, wrapping)")
    private static void digestOfSomeWraps() {
        SongToBridge x = Check.some();
        due("digest()", digestOf(numbersOf(x, new int[] {1, 2}, "45?")), x.digest());
    }

    @Says(promise = 29, text = "(as longs, wrapping)")
    private static void digestOfAFullOneWraps() {
        int[] heard = {1, 2, 2, 3, 4, 5, 6, 7, 8, 0};
        SongToBridge x = Check.full();
        due("digest()", digestOf(numbersOf(x, heard, "01abcdefghijklmn")), x.digest());
    }

    @Says(promise = 29, text = "what cheapest() tells of PLACE 5 for 0 and 1")
    private static void digestTellsOfPlaceFive() {
        SongToBridge x = Check.with("01a", "12b", "23c", "34d", "45e");
        for (int s = 0; s < 5; s++) {
            x.singer(s, 1 << s, 30, 6, 99);
            x.teach(s, s, s + 1);
        }
        due("fees to place 5", 14, x.cheapest(0, 5, 0));
        due("digest()", digestOf(numbersOf(x, new int[0], "")), x.digest());
    }

    @Says(promise = 29, text = "what choir() tells of 0 and 5 for 0 and 1")
    private static void digestTellsOfTheChoirFromZeroToFive() {
        SongToBridge x = Check.with("05a", "15b", "04c");
        x.singer(0, 0b000010, 0, 1, 0);
        x.singer(0, 0b000100, 0, 1, 0);
        x.singer(0, 0b000001, 0, 1, 0);
        due("which one", 0b00100, x.choir(0, 5, 1));
        due("digest()", digestOf(numbersOf(x, new int[0], "")), x.digest());
    }

    @Says(promise = 29, text = "letters of THE PAGE; what count() tells for 0 to 4")
    private static void digestTellsEachLetter() {
        for (String page : new String[] {"", "0", "~", "abc", "cba", "0123456789abcdef"}) {
            SongToBridge x = Check.page(page);
            due("digest() with '" + page + "'", digestOf(numbersOf(x, new int[0], page)), x.digest());
        }
    }

    @Says(promise = 29, text = "`long digest()`")
    private static void digestChangesNothing() {
        Check.asks("digest()", Check::some, SongToBridge::digest);
        Check.asks("digest() of a full one", Check::full, SongToBridge::digest);
        Check.asks("digest() of a new one", SongToBridge::new, SongToBridge::digest);
    }

    // ---- all calls

    @Says(promise = 0, text = "An object is used for at most 512 calls after it has been made")
    private static void usesAreToldUpToTheLastCall() {
        SongToBridge x = new SongToBridge();
        x.letters(Check.word("01a"));
        x.bridge();
        x.letters(Check.word("01b"));
        x.bridge();
        x.singer(0, 0b000011, 30, 6, 0);
        for (int call = 6; call <= 509; call++) {
            if (call % 20 == 0) {
                x.night();
            } else {
                x.cross(0, call % 2);
            }
        }
        int there = x.cross(0, 0);
        due("call 511: and back", 1 - there, x.cross(0, 1));
        due("call 512: a was used ahead of b", 0, x.told(0, 6));
    }

    @Says(promise = 0, text = "An object is used for at most 512 calls after it has been made")
    private static void callsBehindTheLastDoNotThrow() {
        SongToBridge x = Check.full();
        for (int i = 0; i < 2000; i++) {
            x.image();
            x.restore();
            x.cross(0, i % 9);
            x.night();
            x.learn(i % 5, i % 6);
            x.wander(i % 5, 60, i, 3);
        }
        due("it answers still", 5, x.count(1));
    }

    @Says(promise = 0, text = "UNKNOWN (a number names nothing), OUTSIDE (it is not as told), STATE (as told), FULL")
    private static void farNumbersAreRefusedAndNothingIsThrown() {
        int[] far = {Integer.MIN_VALUE, -104, -103, -102, -101, -2, 64, 100, 1 << 16, Integer.MAX_VALUE};
        for (int n : far) {
            SongToBridge x = Check.full();
            long before = x.digest();
            long[] answers = {x.about(n, n), x.as(n, n), x.change(n, n, n), x.alike(n), x.singer(n, n, n, n, n),
                x.told(n, n), x.teach(n, n, n), x.may(n, n), x.cross(n, n), x.learn(n, n), x.home(n, n, n), x.reach(n),
                x.first(n), x.cheapest(n, n, n), x.choir(n, n, n), x.heard(n), x.wander(n, n, n, n)};
            for (int i = 0; i < answers.length; i++) {
                due("call " + i + " of " + n, UNKNOWN, answers[i]);
            }
            due("count(" + n + ")", OUTSIDE, x.count(n));
            due("the digest", before, x.digest());
        }
    }

    @Says(promise = 0, text = "they change nothing")
    private static void manyRefusalsChangeNothing() {
        SongToBridge x = Check.full();
        long before = x.digest();
        for (int i = 0; i < 20; i++) {
            long[] refusals = {x.letters(-1), x.letters('a'), x.bridge(), x.about(9, 0), x.as(0, 4), x.change(0, 5, 0),
                x.alike(9), x.singer(0, 0, 0, 1, 0), x.told(0, 7), x.teach(0, 0, 100), x.may(5, 0), x.cross(5, 0),
                x.learn(0, 6), x.home(0, 0, 2), x.reach(5), x.first(5), x.cheapest(0, 6, 0), x.choir(0, 0, 2),
                x.heard(0), x.wander(0, 0, 0, 0), x.count(5)};
            for (int k = 0; k < refusals.length; k++) {
                due("refusal " + k, 1, refusals[k] <= UNKNOWN && refusals[k] >= FULL ? 1 : 0);
            }
        }
        due("the digest", before, x.digest());
    }
}
