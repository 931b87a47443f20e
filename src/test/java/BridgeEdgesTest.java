import java.io.IOException;

/** Promises 1 to 9 at their edges; each method holds the class to one sentence of the document. */
public final class BridgeEdgesTest {
    private static final int NONE = Check.NONE, UNKNOWN = Check.UNKNOWN, OUTSIDE = Check.OUTSIDE,
        STATE = Check.STATE, FULL = Check.FULL;
    private static final String[] SIGNS = {"", "?", "!", "~"};

    public static void main(String[] args) throws IOException {
        Check.runAll(BridgeEdgesTest.class);
    }

    private static void due(String what, long want, long got) {
        Check.due(what, want, got);
    }

    private static String times(String letter, int n) {
        return letter.repeat(n);
    }

    // ---- a new object

    @Says(promise = 1, text = "No BRIDGES, no SINGERS, nothing is taught.")
    private static void newObjectHoldsNothing() {
        SongToBridge x = new SongToBridge();
        for (int what = 0; what <= 4; what++) {
            due("count(" + what + ")", 0, x.count(what));
        }
        due("about(0, 0)", UNKNOWN, x.about(0, 0));
        due("told(0, 0)", UNKNOWN, x.told(0, 0));
    }

    @Says(promise = 1, text = "nothing is taught")
    private static void newObjectTeachesNothing() {
        SongToBridge x = new SongToBridge();
        for (int i = 0; i < 36; i++) {
            due("fee " + i, NONE, x.teach(i / 6, i % 6, 7));
        }
    }

    @Says(promise = 1, text = "No BRIDGES, no SINGERS")
    private static void newObjectRefusesNumberZero() {
        SongToBridge x = new SongToBridge();
        long[] answers = {x.as(0, 0), x.change(0, 0, 0), x.alike(0), x.may(0, 0), x.cross(0, 0), x.learn(0, 0),
            x.home(0, 0, 0), x.reach(0), x.first(0), x.cheapest(0, 0, 0), x.heard(0), x.wander(0, 1, 0, 0)};
        for (int i = 0; i < answers.length; i++) {
            due("call " + i + " of number 0", UNKNOWN, answers[i]);
        }
    }

    @Says(promise = 1, text = "No BRIDGES, no SINGERS")
    private static void newObjectAnswersWhereNoNumberIsAsked() {
        SongToBridge x = new SongToBridge();
        due("blank()", 0, x.blank());
        due("fault()", 0, x.fault());
        due("bridge()", STATE, x.bridge());
        due("night()", 0, x.night());
        due("hush()", 0, x.hush());
        due("who()", 0, x.who());
        due("restore()", STATE, x.restore());
        due("choir(0, 5, 0)", NONE, x.choir(0, 5, 0));
        due("choir(0, 5, 1)", NONE, x.choir(0, 5, 1));
    }

    @Says(promise = 1, text = "`SongToBridge()`")
    private static void objectsShareNothing() {
        SongToBridge x = Check.full();
        SongToBridge y = new SongToBridge();
        long before = x.digest();
        due("the digest of a new one", new SongToBridge().digest(), y.digest());
        Check.build(y, "01a");
        y.singer(0, 1, 9, 1, 9);
        y.teach(0, 0, 9);
        y.image();
        due("the digest of the other", before, x.digest());
        due("the image of the other", 2, x.restore());
    }

    // ---- letters

    @Says(promise = 2, text = "up to eight")
    private static void wordOfNoneToEightLetters() {
        for (int n = 0; n <= 8; n++) {
            SongToBridge x = new SongToBridge();
            due(n + " letters", n, x.letters(Check.word("01abcdea".substring(0, n))));
            due("count(4)", n, x.count(4));
        }
    }

    @Says(promise = 2, text = "Letters come behind THE PAGE")
    private static void lettersComeBehindOthers() {
        SongToBridge x = new SongToBridge();
        due("the first", 1, x.letters('4'));
        due("the second", 2, x.letters('2'));
        due("two more", 4, x.letters(Check.word("cd")));
        due("none more", 4, x.letters(0));
        due("bridge()", 0, x.bridge());
        int[] all = {0, 4, 2, 2, 2, 2, 3};
        for (int what = 0; what < all.length; what++) {
            due("about(0, " + what + ")", all[what], x.about(0, what));
        }
    }

    @Says(promise = 2, text = "the lowest byte first")
    private static void lowestByteComesFirst() {
        SongToBridge x = new SongToBridge();
        due("letters", 8, x.letters(0x6665646362613130L));
        due("the sixth verse is the fault", 7, x.fault());
        SongToBridge y = new SongToBridge();
        y.letters(0x6665646362213130L);
        due("bridge()", 0, y.bridge());
        for (int i = 0; i < 5; i++) {
            due("verse " + i, i + 1, y.about(0, 5 + i));
        }
    }

    @Says(promise = 2, text = "until a byte that is 0")
    private static void lettersEndAtZero() {
        for (int n = 0; n < 8; n++) {
            SongToBridge x = new SongToBridge();
            long w = n == 0 ? 0 : 0x0101010101010101L >>> (8 * (8 - n));
            due(n + " bytes of 1", n, x.letters(w));
        }
    }

    @Says(promise = 2, text = "OUTSIDE: a byte above 126")
    private static void byteOf126IsLastAtEachPlace() {
        for (int at = 0; at < 8; at++) {
            long ahead = at == 0 ? 0 : Check.word(times("a", at));
            for (int code : new int[] {1, 125, 126}) {
                due(code + " at " + at, at + 1, new SongToBridge().letters(ahead | (long) code << (8 * at)));
            }
            for (int code : new int[] {127, 128, 129, 254, 255}) {
                long w = ahead | (long) code << (8 * at);
                Check.refused(code + " at " + at, OUTSIDE, Check::some, x -> x.letters(w));
            }
        }
    }

    @Says(promise = 2, text = "OUTSIDE: a byte above 126")
    private static void byteAbove126BehindZeroOrAheadOfLetters() {
        for (long w : new long[] {-1L, Long.MIN_VALUE, 0xff00L, 0x617fL, 0x61616161616161ffL, 0x7f00000000000061L}) {
            Check.refused("letters(" + w + ")", OUTSIDE, Check::some, x -> x.letters(w));
        }
    }

    @Says(promise = 2, text = "or one behind a 0 that is not 0")
    private static void letterBehindZero() {
        for (int zero = 0; zero < 7; zero++) {
            for (int at = zero + 1; at < 8; at++) {
                long ahead = zero == 0 ? 0 : Check.word(times("a", zero));
                long w = ahead | 1L << (8 * at);
                Check.refused("a letter at " + at + " behind a 0 at " + zero, OUTSIDE, Check::some, x -> x.letters(w));
            }
        }
    }

    @Says(promise = 2, text = "FULL: above 16")
    private static void sixteenLettersFit() {
        for (int had = 8; had <= 16; had++) {
            String text = times("a", had);
            String fits = times("b", 16 - had);
            due(had + " and " + fits.length(), 16, Check.page(text).letters(Check.word(fits)));
        }
    }

    @Says(promise = 2, text = "FULL: above 16")
    private static void seventeenLettersDoNotFit() {
        for (int had = 9; had <= 16; had++) {
            String text = times("a", had);
            long more = Check.word(times("b", 17 - had));
            Check.refused(had + " and " + (17 - had), FULL, () -> Check.page(text), x -> x.letters(more));
            Check.refused(had + " and 8", FULL, () -> Check.page(text), x -> x.letters(Check.word("abcdefab")));
        }
    }

    @Says(promise = 2, text = "OUTSIDE: a byte above 126, or one behind a 0 that is not 0; FULL: above 16")
    private static void lettersOutsideGoesAheadOfFull() {
        Check.refused("a byte of 127 on a full page", OUTSIDE, Check::full, x -> x.letters(127));
        Check.refused("a letter behind a 0 on a full page", OUTSIDE, Check::full, x -> x.letters(0x6100L));
        Check.refused("a letter on a full page", FULL, Check::full, x -> x.letters('a'));
        due("no letter on a full page", 16, Check.full().letters(0));
    }

    @Says(promise = 2, text = "how many THE PAGE has")
    private static void refusedWordPutsNoneOfItsLetters() {
        SongToBridge x = Check.page("01abcdefabcdefa");
        due("two on fifteen", FULL, x.letters(Check.word("bc")));
        due("then one", 16, x.letters('b'));
        SongToBridge y = Check.page("01");
        due("a verse and a wrong one", OUTSIDE, y.letters(0x7f61L));
        due("still no song", STATE, y.bridge());
    }

    // ---- blank

    @Says(promise = 3, text = "THE PAGE is empty: how many letters it had.")
    private static void blankTellsHowManyThereWere() {
        for (int n = 0; n <= 16; n++) {
            SongToBridge x = Check.page(times("z", n));
            due("blank() of " + n, n, x.blank());
            due("count(4)", 0, x.count(4));
            due("blank() again", 0, x.blank());
        }
    }

    @Says(promise = 3, text = "THE PAGE is empty")
    private static void fullPageTakesSixteenAgain() {
        SongToBridge x = Check.full();
        x.blank();
        due("fault() of an empty page", 0, x.fault());
        due("eight", 8, x.letters(Check.word("abcdefab")));
        due("sixteen", 16, x.letters(Check.word("abcdefab")));
    }

    @Says(promise = 3, text = "THE PAGE is empty")
    private static void blankLeavesAllElse() {
        SongToBridge x = Check.with("01ab");
        x.singer(0, 3, 9, 1, 9);
        long before = x.digest();
        Check.write(x, "23?");
        x.blank();
        due("the digest", before, x.digest());
    }

    @Says(promise = 3, text = "THE PAGE is empty")
    private static void nothingShowsThroughFromBeforeBlank() {
        SongToBridge x = Check.page("01?abcde");
        x.blank();
        Check.write(x, "23");
        due("fault() of two digits", 2, x.fault());
        due("two digits are no bridge", STATE, x.bridge());
        Check.write(x, "f");
        due("bridge()", 0, x.bridge());
        int[] all = {0, 2, 3, 1, 1, 5, NONE, NONE, NONE, NONE};
        for (int what = 0; what < all.length; what++) {
            due("about(0, " + what + ")", all[what], x.about(0, what));
        }
    }

    // ---- fault

    /** Each code at the end of a text: those in 'fit' are no fault there. */
    private static void onlyTheseFit(String ahead, String fit) {
        for (char code = 1; code <= 126; code++) {
            int want = fit.indexOf(code) >= 0 ? ahead.length() + 1 : ahead.length();
            due("fault() of '" + ahead + "' and code " + (int) code, want, Check.page(ahead + code).fault());
        }
    }

    @Says(promise = 4, text = "two unlike digits (the PLACES that it joins)")
    private static void firstLetterIsADigit() {
        onlyTheseFit("", "012345");
    }

    @Says(promise = 4, text = "two unlike digits (the PLACES that it joins)")
    private static void secondLetterIsAnotherDigit() {
        for (int place = 0; place < 6; place++) {
            onlyTheseFit("" + place, "012345".replace("" + place, ""));
        }
    }

    @Says(promise = 4, text = "perhaps a sign, then its SONG")
    private static void thirdLetterIsASignOrAVerse() {
        onlyTheseFit("01", "?!~abcdef");
    }

    @Says(promise = 4, text = "perhaps a sign, then its SONG")
    private static void behindASignComesAVerse() {
        for (String sign : new String[] {"?", "!", "~"}) {
            onlyTheseFit("50" + sign, "abcdef");
        }
    }

    @Says(promise = 4, text = "one to five VERSES (letters)")
    private static void behindAVerseComesAVerse() {
        for (String sign : SIGNS) {
            for (int n = 1; n <= 4; n++) {
                onlyTheseFit("23" + sign + times("f", n), "abcdef");
            }
        }
    }

    @Says(promise = 4, text = "one to five VERSES (letters)")
    private static void behindFiveVersesComesNothing() {
        for (String sign : SIGNS) {
            onlyTheseFit("23" + sign + "abcde", "");
        }
    }

    @Says(promise = 4, text = "The place (from 0) of the first letter of THE PAGE that no BRIDGE has there")
    private static void firstOfSeveralFaultsIsTold() {
        String[] texts = {"zzzzzzzzzzzzzzzz", "6601a", "00a", "0zza", "01zz", "01aza?", "01??!", "01abcdezz",
            "45~abcdeabcdeabc"};
        int[] faults = {0, 0, 1, 1, 2, 3, 3, 7, 8};
        for (int i = 0; i < texts.length; i++) {
            due("fault() of " + texts[i], faults[i], Check.page(texts[i]).fault());
        }
    }

    @Says(promise = 4, text = "behind those ahead of it")
    private static void whatFitsDependsOnThoseAhead() {
        due("0 behind 0", 1, Check.page("00").fault());
        due("0 behind 1", 2, Check.page("10").fault());
        due("the sixth verse without a sign", 7, Check.page("10abcdef").fault());
        due("the fifth verse with a sign", 8, Check.page("10!abcde").fault());
    }

    @Says(promise = 4, text = "how many letters it has, if there is none")
    private static void noFaultTellsHowManyLetters() {
        String longest = "01~abcde";
        for (int n = 0; n <= longest.length(); n++) {
            due("fault() of " + longest.substring(0, n), n, Check.page(longest.substring(0, n)).fault());
        }
    }

    @Says(promise = 4, text = "how many letters it has, if there is none")
    private static void faultChangesNothing() {
        Check.asks("fault()", Check::some, SongToBridge::fault);
        Check.asks("fault() of a full page", Check::full, SongToBridge::fault);
    }

    // ---- bridge

    @Says(promise = 5, text = "STATE: it is none")
    private static void unfinishedTextIsNoBridge() {
        for (String text : new String[] {"", "0", "5", "01", "54", "01?", "01!", "01~"}) {
            Check.refused("bridge() of '" + text + "'", STATE, () -> Check.page(text), SongToBridge::bridge);
        }
    }

    @Says(promise = 5, text = "STATE: it is none")
    private static void faultyTextIsNoBridge() {
        for (String text : new String[] {"6", "/1a", "60a", "06a", "00a", "33?a", "0a", "a", "01g", "01A", "01`",
            "01.a", "01??a", "01a?", "01?a?b", "01a1", "01ab ", "01 a", "?01a", "01a01a"}) {
            Check.refused("bridge() of '" + text + "'", STATE, () -> Check.page(text), SongToBridge::bridge);
        }
    }

    @Says(promise = 0, text = "then its SONG: one to five VERSES (letters)")
    private static void songOfOneToFiveVerses() {
        for (String sign : SIGNS) {
            for (int n = 0; n <= 6; n++) {
                SongToBridge x = Check.page("01" + sign + times("c", n));
                boolean isOne = n >= 1 && n <= 5;
                due("bridge() with sign '" + sign + "' and " + n, isOne ? 0 : STATE, x.bridge());
                due("count(0)", isOne ? 1 : 0, x.count(0));
                due("about(0, 3)", isOne ? n : UNKNOWN, x.about(0, 3));
            }
        }
    }

    @Says(promise = 0, text = "two unlike digits (the PLACES that it joins)")
    private static void eachPairOfUnlikePlaces() {
        for (int i = 0; i < 64; i++) {
            int from = i / 8;
            int to = i % 8;
            boolean isOne = from < 6 && to < 6 && from != to;
            SongToBridge x = Check.page("" + from + to + "a");
            due("bridge() from " + from + " to " + to, isOne ? 0 : STATE, x.bridge());
            due("about(0, 1)", isOne ? from : UNKNOWN, x.about(0, 1));
            due("about(0, 2)", isOne ? to : UNKNOWN, x.about(0, 2));
        }
    }

    @Says(promise = 0, text = "VERSES six (a to f; 0 to 5)")
    private static void eachVerseOfABridge() {
        for (char letter = 'a' - 1; letter <= 'f' + 1; letter++) {
            boolean isOne = letter >= 'a' && letter <= 'f';
            SongToBridge x = Check.page("01" + letter);
            due("bridge() of " + letter, isOne ? 0 : STATE, x.bridge());
            due("about(0, 5)", isOne ? letter - 'a' : UNKNOWN, x.about(0, 5));
        }
    }

    @Says(promise = 0, text = "BRIDGES (9 at most, numbered)")
    private static void nineBridgesFit() {
        SongToBridge x = new SongToBridge();
        for (int b = 0; b < 9; b++) {
            due("bridge " + b, b, Check.build(x, "0" + (1 + b % 5) + "abcde".substring(b % 5)));
            due("count(0)", b + 1, x.count(0));
            due("its second place", 1 + b % 5, x.about(b, 2));
        }
        due("a tenth", FULL, Check.build(x, "01a"));
        due("count(0)", 9, x.count(0));
    }

    @Says(promise = 5, text = "STATE: it is none; FULL.")
    private static void tenthBridgeIsRefused() {
        Check.refused("a tenth bridge", FULL, () -> Check.fullWith("01a"), SongToBridge::bridge);
        Check.refused("a tenth bridge with a sign", FULL, () -> Check.fullWith("45~abcde"), SongToBridge::bridge);
        SongToBridge x = Check.fullWith("01a");
        x.bridge();
        due("its text stays", 3, x.count(4));
    }

    @Says(promise = 5, text = "STATE: it is none; FULL.")
    private static void bridgeStateGoesAheadOfFull() {
        for (String text : new String[] {"", "01", "01?", "00a", "01abcdef"}) {
            Check.refused("bridge() of '" + text + "'", STATE, () -> Check.fullWith(text), SongToBridge::bridge);
        }
    }

    @Says(promise = 5, text = "THE PAGE is empty then")
    private static void pageIsEmptyBehindABridge() {
        SongToBridge x = Check.page("01?abcde");
        due("bridge()", 0, x.bridge());
        due("count(4)", 0, x.count(4));
        due("bridge() again", STATE, x.bridge());
        due("blank()", 0, x.blank());
        due("letters", 3, x.letters(Check.word("12f")));
        due("the next", 1, x.bridge());
    }

    @Says(promise = 5, text = "THE PAGE is empty then")
    private static void nothingShowsThroughFromTheBridgeBefore() {
        SongToBridge x = Check.with("01~abcde");
        due("fault()", 0, x.fault());
        Check.write(x, "45");
        due("two digits are no bridge", STATE, x.bridge());
        Check.write(x, "!b");
        due("the next", 1, x.bridge());
        int[] all = {2, 4, 5, 1, 1, 1, NONE, NONE, NONE, NONE};
        for (int what = 0; what < all.length; what++) {
            due("about(1, " + what + ")", all[what], x.about(1, what));
        }
    }

    @Says(promise = 5, text = "THE PAGE is read as a BRIDGE")
    private static void refusedTextCanBeGoneOnWith() {
        SongToBridge x = Check.page("34!");
        due("without a song", STATE, x.bridge());
        due("a verse", 4, x.letters('e'));
        due("with a song", 0, x.bridge());
        due("kind", 2, x.about(0, 0));
    }

    @Says(promise = 0, text = "those that come since are gone by restore()")
    private static void restoreMakesRoomForBridges() {
        SongToBridge x = Check.fullWith("45f");
        due("full", FULL, x.bridge());
        x.restore();
        due("room again", 3, x.bridge());
        due("it is the new one", 4, x.about(3, 1));
        due("with one verse", 1, x.about(3, 3));
    }

    // ---- about

    @Says(promise = 6, text = "what = 0 KIND, 1, 2 its PLACES (as told), 3 how many VERSES, 4 LENGTH")
    private static void aboutFromZeroToNine() {
        SongToBridge x = Check.with("50?fa");
        int[] all = {1, 5, 0, 2, 2, 5, 0, NONE, NONE, NONE};
        due("about(0, -1)", OUTSIDE, x.about(0, -1));
        for (int what = 0; what <= 9; what++) {
            due("about(0, " + what + ")", all[what], x.about(0, what));
        }
        due("about(0, 10)", OUTSIDE, x.about(0, 10));
    }

    @Says(promise = 6, text = "5 to 9 the so-manieth VERSE (NONE)")
    private static void versesBehindTheSongAreNone() {
        for (String sign : SIGNS) {
            for (int n = 1; n <= 5; n++) {
                SongToBridge x = Check.with("01" + sign + "fedcb".substring(0, n));
                for (int i = 0; i < 5; i++) {
                    due("verse " + i + " of " + n, i < n ? 5 - i : NONE, x.about(0, 5 + i));
                }
            }
        }
    }

    @Says(promise = 0, text = "Signs tell KINDS: 0 BRIDGE (no sign), 1 DEAF (\"?\"), 2 ECHO (\"!\"), 3 WORN (\"~\")")
    private static void signsTellKinds() {
        for (int kind = 0; kind < 4; kind++) {
            due("kind of '" + SIGNS[kind] + "'", kind, Check.with("01" + SIGNS[kind] + "a").about(0, 0));
        }
    }

    @Says(promise = 0, text = "Its LENGTH: how many VERSES; of an ECHO how many unlike ones.")
    private static void lengthOfEachKind() {
        String[] songs = {"a", "aa", "ab", "aba", "fff", "aabb", "abca", "aaaaa", "abcde", "fafaf", "bcdef"};
        int[] unlike = {1, 1, 2, 2, 1, 2, 3, 1, 5, 2, 5};
        for (int i = 0; i < songs.length; i++) {
            for (int kind = 0; kind < 4; kind++) {
                int want = kind == 2 ? unlike[i] : songs[i].length();
                SongToBridge x = Check.with("01" + SIGNS[kind] + songs[i]);
                due("length of " + SIGNS[kind] + songs[i], want, x.about(0, 4));
                due("verses of " + SIGNS[kind] + songs[i], songs[i].length(), x.about(0, 3));
            }
        }
    }

    @Says(promise = 6, text = "(NONE). UNKNOWN; OUTSIDE.")
    private static void aboutRefusals() {
        Check.refused("about(-1, 0)", UNKNOWN, Check::some, x -> x.about(-1, 0));
        Check.refused("about(4, 0)", UNKNOWN, Check::some, x -> x.about(4, 0));
        Check.refused("about(9, 0)", UNKNOWN, Check::full, x -> x.about(9, 0));
        Check.refused("about(3, -1)", OUTSIDE, Check::some, x -> x.about(3, -1));
        Check.refused("about(3, 10)", OUTSIDE, Check::some, x -> x.about(3, 10));
        Check.refused("about(4, 10)", UNKNOWN, Check::some, x -> x.about(4, 10));
        for (int n : Check.FAR) {
            Check.refused("about(" + n + ", 0)", UNKNOWN, Check::full, x -> x.about(n, 0));
            Check.refused("about(0, " + n + ")", OUTSIDE, Check::full, x -> x.about(0, n));
            Check.refused("about(" + n + ", " + n + ")", UNKNOWN, Check::full, x -> x.about(n, n));
        }
        due("about(8, 0)", 0, Check.full().about(8, 0));
    }

    @Says(promise = 6, text = "Of a BRIDGE")
    private static void aboutChangesNothing() {
        for (int what = 0; what <= 9; what++) {
            int asked = what;
            Check.asks("about(2, " + what + ")", Check::some, x -> x.about(2, asked));
        }
    }

    // ---- as

    @Says(promise = 0, text = "All are BRIDGES; a WORN is DEAF, too.")
    private static void eachBridgeAsEachKind() {
        String[] casts = {"0...", "11..", "2.2.", "33.3"};
        SongToBridge x = Check.with("01a", "01?a", "01!a", "01~a");
        for (int b = 0; b < 4; b++) {
            for (int kind = 0; kind < 4; kind++) {
                due("as(" + b + ", " + kind + ")", casts[b].charAt(kind) == '.' ? NONE : b, x.as(b, kind));
            }
        }
    }

    @Says(promise = 7, text = "NONE: it is none such (the cast fails). UNKNOWN; OUTSIDE.")
    private static void asRefusals() {
        Check.refused("as(0, -1)", OUTSIDE, Check::some, x -> x.as(0, -1));
        Check.refused("as(0, 4)", OUTSIDE, Check::some, x -> x.as(0, 4));
        Check.refused("as(-1, 0)", UNKNOWN, Check::some, x -> x.as(-1, 0));
        Check.refused("as(4, 0)", UNKNOWN, Check::some, x -> x.as(4, 0));
        Check.refused("as(4, 4)", UNKNOWN, Check::some, x -> x.as(4, 4));
        for (int n : Check.FAR) {
            Check.refused("as(" + n + ", 0)", UNKNOWN, Check::full, x -> x.as(n, 0));
            Check.refused("as(0, " + n + ")", OUTSIDE, Check::full, x -> x.as(0, n));
            Check.refused("as(" + n + ", " + n + ")", UNKNOWN, Check::full, x -> x.as(n, n));
        }
        due("as(3, 3)", 3, Check.some().as(3, 3));
        due("as(8, 0)", 8, Check.full().as(8, 0));
    }

    @Says(promise = 7, text = "A BRIDGE taken as a KIND: its number")
    private static void asChangesNothing() {
        for (int kind = 0; kind < 4; kind++) {
            int asked = kind;
            Check.asks("as(3, " + kind + ")", Check::some, x -> x.as(3, asked));
            Check.asks("as(0, " + kind + ")", Check::some, x -> x.as(0, asked));
        }
    }

    // ---- change

    @Says(promise = 8, text = "The i-th VERSE (from 0) of a SONG becomes another one: what it was.")
    private static void eachVerseOfASongChanges() {
        for (int n = 1; n <= 5; n++) {
            SongToBridge x = Check.with("01!" + "abcde".substring(0, n), "23abcde");
            for (int i = 0; i < n; i++) {
                due("change(0, " + i + ", 5)", i, x.change(0, i, 5));
                due("the verse then", 5, x.about(0, 5 + i));
                due("what it was then", 5, x.change(0, i, i));
                due("the verse again", i, x.about(0, 5 + i));
            }
            due("how many verses", n, x.about(0, 3));
            due("another bridge", 0, x.about(1, 5));
        }
    }

    @Says(promise = 8, text = "UNKNOWN: bridge, i, verse.")
    private static void changeBehindTheSong() {
        for (int n = 1; n <= 5; n++) {
            String text = "01?" + "abcde".substring(0, n);
            for (int i : new int[] {-1, n, n + 1, 5, 6}) {
                Check.refused("change(0, " + i + ", 0) of " + text, UNKNOWN, () -> Check.with(text),
                    x -> x.change(0, i, 0));
            }
        }
    }

    @Says(promise = 8, text = "UNKNOWN: bridge, i, verse.")
    private static void changeToEachVerse() {
        for (int verse = 0; verse < 6; verse++) {
            SongToBridge x = Check.with("01cd");
            due("change(0, 0, " + verse + ")", 2, x.change(0, 0, verse));
            due("the verse then", verse, x.about(0, 5));
            due("the other verse", 3, x.about(0, 6));
        }
        Check.refused("change(0, 0, -1)", UNKNOWN, Check::some, x -> x.change(0, 0, -1));
        Check.refused("change(0, 0, 6)", UNKNOWN, Check::some, x -> x.change(0, 0, 6));
    }

    @Says(promise = 8, text = "UNKNOWN: bridge, i, verse.")
    private static void changeRefusals() {
        Check.refused("change(-1, 0, 0)", UNKNOWN, Check::some, x -> x.change(-1, 0, 5));
        Check.refused("change(4, 0, 0)", UNKNOWN, Check::some, x -> x.change(4, 0, 5));
        Check.refused("change(9, 0, 0)", UNKNOWN, Check::full, x -> x.change(9, 0, 5));
        for (int n : Check.FAR) {
            Check.refused("change(" + n + ", 0, 5)", UNKNOWN, Check::full, x -> x.change(n, 0, 5));
            Check.refused("change(0, " + n + ", 5)", UNKNOWN, Check::full, x -> x.change(0, n, 5));
            Check.refused("change(0, 0, " + n + ")", UNKNOWN, Check::full, x -> x.change(0, 0, n));
        }
        due("change(8, 4, 0)", 4, Check.full().change(8, 4, 0));
    }

    @Says(promise = 0, text = "of an ECHO how many unlike ones")
    private static void changeTellsInTheLength() {
        SongToBridge x = Check.with("01!aaaaa", "01aaaaa");
        for (int i = 1; i < 5; i++) {
            x.change(0, i, i);
            x.change(1, i, i);
            due("length of an echo", i + 1, x.about(0, 4));
            due("length of a bridge", 5, x.about(1, 4));
        }
        x.change(0, 0, 4);
        due("length of an echo with two alike", 4, x.about(0, 4));
    }

    @Says(promise = 8, text = "becomes another one: what it was")
    private static void changeTellsInTheSinging() {
        SongToBridge x = Check.with("01ab");
        x.singer(0, 0b000011, 9, 6, 0);
        due("may before", 1, x.may(0, 0));
        x.change(0, 1, 2);
        due("may then", 0, x.may(0, 0));
        x.change(0, 1, 0);
        due("may with a twice", 1, x.may(0, 0));
    }

    // ---- alike

    @Says(promise = 9, text = "The least other BRIDGE with the same SONG; NONE.")
    private static void aloneIsAlikeToNone() {
        due("one bridge", NONE, Check.with("01ab").alike(0));
        due("of two unlike ones the first", NONE, Check.with("01ab", "01ac").alike(0));
        due("of two unlike ones the second", NONE, Check.with("01ab", "01ac").alike(1));
    }

    @Says(promise = 9, text = "The least other BRIDGE with the same SONG; NONE.")
    private static void leastOtherOneIsTold() {
        SongToBridge x = Check.with("01ab", "12ab", "23ab");
        due("alike(0)", 1, x.alike(0));
        due("alike(1)", 0, x.alike(1));
        due("alike(2)", 0, x.alike(2));
        SongToBridge full = Check.with("01a", "01b", "01c", "01d", "01e", "01f", "01aa", "01abcde", "54abcde");
        due("the last of nine", 8, full.alike(7));
        due("the one ahead of the last", 7, full.alike(8));
        due("none", NONE, full.alike(0));
    }

    @Says(promise = 9, text = "with the same SONG")
    private static void sameSongIsEachVerseInOrder() {
        String[][] pairs = {{"ab", "ba"}, {"a", "aa"}, {"ab", "abc"}, {"abc", "ab"}, {"abcde", "abcdf"},
            {"abcde", "fbcde"}, {"aab", "abb"}, {"abcd", "abcde"}};
        for (String[] pair : pairs) {
            SongToBridge x = Check.with("01" + pair[0], "01" + pair[1]);
            due(pair[0] + " alike to " + pair[1], NONE, x.alike(0));
            due(pair[1] + " alike to " + pair[0], NONE, x.alike(1));
        }
    }

    @Says(promise = 9, text = "with the same SONG")
    private static void songIsTheVersesAlone() {
        for (String sign : SIGNS) {
            SongToBridge x = Check.with("01cf", "45" + sign + "cf");
            due("alike(0) to one with '" + sign + "'", 1, x.alike(0));
            due("alike(1) with '" + sign + "'", 0, x.alike(1));
        }
    }

    @Says(promise = 9, text = "with the same SONG")
    private static void changeMakesAlikeAndUnlike() {
        SongToBridge x = Check.with("01ab", "12ac");
        x.change(1, 1, 1);
        due("alike then", 1, x.alike(0));
        x.change(0, 0, 5);
        due("unlike then", NONE, x.alike(0));
        due("unlike then", NONE, x.alike(1));
    }

    @Says(promise = 0, text = "those that come since are gone by restore()")
    private static void bridgeThatIsGoneIsAlikeToNone() {
        SongToBridge x = Check.with("01ab");
        x.image();
        Check.build(x, "12ab");
        due("alike before", 1, x.alike(0));
        x.restore();
        due("alike then", NONE, x.alike(0));
        due("the one that is gone", UNKNOWN, x.alike(1));
    }

    @Says(promise = 9, text = "NONE. UNKNOWN.")
    private static void alikeRefusals() {
        Check.refused("alike(-1)", UNKNOWN, Check::some, x -> x.alike(-1));
        Check.refused("alike(4)", UNKNOWN, Check::some, x -> x.alike(4));
        Check.refused("alike(9)", UNKNOWN, Check::full, x -> x.alike(9));
        for (int n : Check.FAR) {
            Check.refused("alike(" + n + ")", UNKNOWN, Check::full, x -> x.alike(n));
        }
        Check.asks("alike(0)", Check::some, x -> x.alike(0));
        Check.asks("alike(8)", Check::full, x -> x.alike(8));
    }
}
