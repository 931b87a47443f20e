/** One method for each promise of the document: ordinary inputs, the edges it names, wrong inputs. */
public final class PromisesTest {
    private static final int NONE = -1, UNKNOWN = -101, OUTSIDE = -102, STATE = -103, FULL = -104;
    private static final int[] WRONG_NUMBERS = {-1, Integer.MIN_VALUE, Integer.MAX_VALUE};

    private static int promise = 0;
    private static int right = 0;
    private static int wrong = 0;

    public static void main(String[] args) {
        newObject();
        letters();
        blank();
        fault();
        bridge();
        about();
        as();
        change();
        alike();
        singer();
        told();
        teach();
        may();
        cross();
        learn();
        night();
        home();
        reach();
        first();
        cheapest();
        choir();
        heard();
        hush();
        who();
        wander();
        image();
        restore();
        count();
        digest();
        System.out.println("checks: " + right + " as due, " + wrong + " not");
        if (wrong != 0) {
            System.exit(1);
        }
    }

    private static void due(String what, long want, long got) {
        if (got == want) {
            right++;
        } else {
            wrong++;
            System.out.println("promise " + promise + ": " + what + " answered " + got + ", due is " + want);
        }
    }

    private static long word(String text) {
        long w = 0;
        for (int i = text.length() - 1; i >= 0; i--) {
            w = w << 8 | text.charAt(i);
        }
        return w;
    }

    /** Puts a text of any size on the page; answers what the last call answered. */
    private static int write(SongToBridge x, String text) {
        int answer = x.count(4);
        for (int at = 0; at < text.length(); at += 8) {
            answer = x.letters(word(text.substring(at, Math.min(at + 8, text.length()))));
        }
        return answer;
    }

    private static int build(SongToBridge x, String text) {
        write(x, text);
        return x.bridge();
    }

    private static SongToBridge with(String... bridges) {
        SongToBridge x = new SongToBridge();
        for (String text : bridges) {
            build(x, text);
        }
        return x;
    }

    private static void newObject() {
        promise = 1;
        SongToBridge x = new SongToBridge();
        for (int what = 0; what <= 4; what++) {
            due("count(" + what + ") of a new object", 0, x.count(what));
        }
        due("restore() of a new object", STATE, x.restore());
        for (int place = 0; place < 6; place++) {
            for (int verse = 0; verse < 6; verse++) {
                due("the fee at first", NONE, x.teach(place, verse, NONE));
            }
        }
        due("night() of a new object", 0, x.night());
        due("who() of a new object", 0, x.who());
        due("constants", 1, SongToBridge.NONE == NONE && SongToBridge.UNKNOWN == UNKNOWN
            && SongToBridge.OUTSIDE == OUTSIDE && SongToBridge.STATE == STATE && SongToBridge.FULL == FULL ? 1 : 0);
    }

    private static void letters() {
        promise = 2;
        SongToBridge x = new SongToBridge();
        due("letters(0)", 0, x.letters(0));
        due("three letters", 3, x.letters(word("01a")));
        due("a byte of 127", OUTSIDE, x.letters(127));
        due("a byte of 128", OUTSIDE, x.letters(0x8061L));
        due("a byte of 255 on top", OUTSIDE, x.letters(0xff00000000000000L));
        due("all ones", OUTSIDE, x.letters(-1L));
        due("a letter behind a 0", OUTSIDE, x.letters(0x610061L));
        due("a letter behind seven 0", OUTSIDE, x.letters(0x6100000000000000L));
        due("refusals change nothing", 3, x.count(4));
        due("a byte of 126", 4, x.letters(126));
        due("a byte of 1", 5, x.letters(1));
        due("eight letters", 13, x.letters(word("abcdefgh")));
        due("above 16", FULL, x.letters(word("abcd")));
        due("OUTSIDE goes ahead of FULL", OUTSIDE, x.letters(0x7f61616161616161L));
        due("FULL changes nothing", 13, x.count(4));
        due("16 letters", 16, x.letters(word("abc")));
        due("nothing more on a full page", 16, x.letters(0));
        due("one more on a full page", FULL, x.letters(word("a")));
        x.blank();
        write(x, "01a");
        due("letters behind others", 5, write(x, "bc"));
        due("read as one text", 0, x.bridge());
        due("the lowest byte first", 2, x.about(0, 7));
    }

    private static void blank() {
        promise = 3;
        SongToBridge x = new SongToBridge();
        due("blank() of an empty page", 0, x.blank());
        write(x, "01abc");
        due("blank()", 5, x.blank());
        due("the page then", 0, x.count(4));
        due("blank() again", 0, x.blank());
        write(x, "23d");
        due("what was there is gone", 0, x.bridge());
        due("place", 2, x.about(0, 1));
    }

    private static void fault() {
        promise = 4;
        String[] texts = {"", "0", "5", "6", "a", "/", "01", "00", "55", "06", "0a", "01?", "01!", "01~", "01.", "01a",
            "01f", "01g", "01`", "01A", "01?a", "01??", "01a?", "01?a~", "01abcde", "01abcdea", "01?abcde", "01?abcdef",
            "01~fffff0", "05a0", "50!bg", "012", "01abcdefabcdefab", "?01a"};
        int[] faults = {0, 1, 1, 0, 0, 0, 2, 1, 1, 1, 1, 3, 3, 3, 2, 3,
            3, 2, 2, 2, 4, 3, 3, 4, 7, 7, 8, 8,
            8, 3, 4, 2, 7, 0};
        for (int i = 0; i < texts.length; i++) {
            SongToBridge x = new SongToBridge();
            write(x, texts[i]);
            due("fault() of '" + texts[i] + "'", faults[i], x.fault());
            due("fault() leaves the page", texts[i].length(), x.count(4));
        }
    }

    private static void bridge() {
        promise = 5;
        SongToBridge x = new SongToBridge();
        for (String none : new String[] {"", "0", "01", "01?", "00a", "01g", "01abcdef", "01??a", "60a", "01a!"}) {
            write(x, none);
            due("bridge() of '" + none + "'", STATE, x.bridge());
            due("STATE leaves the page", none.length(), x.blank());
        }
        String[] texts = {"01a", "10?b", "23!cc", "45~abcde", "54fffff", "02!f", "03~f", "04?f", "05f"};
        for (int i = 0; i < texts.length; i++) {
            due("bridge() of '" + texts[i] + "'", i, build(x, texts[i]));
            due("the page then", 0, x.count(4));
        }
        write(x, "99");
        due("STATE goes ahead of FULL", STATE, x.bridge());
        x.blank();
        due("a tenth bridge", FULL, build(x, "01a"));
        due("FULL leaves the page", 3, x.count(4));
        due("nine bridges", 9, x.count(0));
    }

    private static void about() {
        promise = 6;
        SongToBridge x = with("01abcab", "53?ff", "42!abaab", "30~e");
        int[][] all = {
            {0, 0, 1, 5, 5, 0, 1, 2, 0, 1},
            {1, 5, 3, 2, 2, 5, 5, NONE, NONE, NONE},
            {2, 4, 2, 5, 2, 0, 1, 0, 0, 1},
            {3, 3, 0, 1, 1, 4, NONE, NONE, NONE, NONE}};
        for (int b = 0; b < all.length; b++) {
            for (int what = 0; what < 10; what++) {
                due("about(" + b + ", " + what + ")", all[b][what], x.about(b, what));
            }
        }
        due("about(4, 0)", UNKNOWN, x.about(4, 0));
        due("about(0, 10)", OUTSIDE, x.about(0, 10));
        due("UNKNOWN goes ahead of OUTSIDE", UNKNOWN, x.about(9, 10));
        for (int n : WRONG_NUMBERS) {
            due("about(" + n + ", 0)", UNKNOWN, x.about(n, 0));
            due("about(0, " + n + ")", OUTSIDE, x.about(0, n));
        }
    }

    private static void as() {
        promise = 7;
        SongToBridge x = with("01a", "01?a", "01!a", "01~a");
        int[][] all = {{0, NONE, NONE, NONE}, {1, 1, NONE, NONE}, {2, NONE, 2, NONE}, {3, 3, NONE, 3}};
        for (int b = 0; b < 4; b++) {
            for (int kind = 0; kind < 4; kind++) {
                due("as(" + b + ", " + kind + ")", all[b][kind], x.as(b, kind));
            }
        }
        due("as(0, 4)", OUTSIDE, x.as(0, 4));
        due("as(4, 0)", UNKNOWN, x.as(4, 0));
        for (int n : WRONG_NUMBERS) {
            due("as(" + n + ", 0)", UNKNOWN, x.as(n, 0));
            due("as(0, " + n + ")", OUTSIDE, x.as(0, n));
            due("as(" + n + ", " + n + ")", UNKNOWN, x.as(n, n));
        }
    }

    private static void change() {
        promise = 8;
        SongToBridge x = with("01abc", "12!aa");
        due("change(0, 2, 5)", 2, x.change(0, 2, 5));
        due("the verse then", 5, x.about(0, 7));
        due("change to the same", 5, x.change(0, 2, 5));
        due("change(0, 0, 0)", 0, x.change(0, 0, 0));
        due("length of an echo before", 1, x.about(1, 4));
        due("change of an echo", 0, x.change(1, 1, 3));
        due("length of an echo then", 2, x.about(1, 4));
        due("i too large", UNKNOWN, x.change(0, 3, 0));
        due("verse too large", UNKNOWN, x.change(0, 0, 6));
        due("bridge too large", UNKNOWN, x.change(2, 0, 0));
        for (int n : WRONG_NUMBERS) {
            due("change(" + n + ", 0, 0)", UNKNOWN, x.change(n, 0, 0));
            due("change(0, " + n + ", 0)", UNKNOWN, x.change(0, n, 0));
            due("change(0, 0, " + n + ")", UNKNOWN, x.change(0, 0, n));
        }
        due("refusals change nothing", 0, x.about(0, 5));
        x.singer(0, 0b100011, 9, 6, 0);
        due("the new song is what is sung", 1, x.may(0, 0));
    }

    private static void alike() {
        promise = 9;
        SongToBridge x = with("01ab", "23ba", "45?ab", "01abc", "02~ab", "13a");
        int[] all = {2, NONE, 0, NONE, 0, NONE};
        for (int b = 0; b < all.length; b++) {
            due("alike(" + b + ")", all[b], x.alike(b));
        }
        x.change(0, 0, 5);
        due("alike(2) when the first is another", 4, x.alike(2));
        due("alike(4) then", 2, x.alike(4));
        due("alike(6)", UNKNOWN, x.alike(6));
        for (int n : WRONG_NUMBERS) {
            due("alike(" + n + ")", UNKNOWN, x.alike(n));
        }
    }

    private static void singer() {
        promise = 10;
        SongToBridge x = new SongToBridge();
        due("place 6", UNKNOWN, x.singer(6, 0, 0, 1, 0));
        due("UNKNOWN goes ahead of OUTSIDE", UNKNOWN, x.singer(-1, 64, 31, 7, 100));
        due("verses 64", OUTSIDE, x.singer(0, 64, 0, 1, 0));
        due("breath 31", OUTSIDE, x.singer(0, 0, 31, 1, 0));
        due("memory 7", OUTSIDE, x.singer(0, 0, 0, 7, 0));
        due("memory 0", OUTSIDE, x.singer(0, 0, 0, 0, 0));
        due("purse 100", OUTSIDE, x.singer(0, 0, 0, 1, 100));
        for (int n : WRONG_NUMBERS) {
            due("place " + n, UNKNOWN, x.singer(n, 0, 0, 1, 0));
            due("verses " + n, OUTSIDE, x.singer(0, n, 0, 1, 0));
            due("breath " + n, OUTSIDE, x.singer(0, 0, n, 1, 0));
            due("memory " + n, OUTSIDE, x.singer(0, 0, 0, n, 0));
            due("purse " + n, OUTSIDE, x.singer(0, 0, 0, 1, n));
        }
        due("none came", 0, x.count(1));
        due("the least", 0, x.singer(0, 0, 0, 1, 0));
        due("the most", 1, x.singer(5, 63, 30, 6, 99));
        due("a third", 2, x.singer(2, 5, 7, 3, 11));
        int[] third = {2, 5, 7, 7, 3, 11};
        for (int what = 0; what < third.length; what++) {
            due("told(2, " + what + ")", third[what], x.told(2, what));
        }
        x.singer(0, 0, 0, 1, 0);
        x.singer(0, 0, 0, 1, 0);
        due("a sixth", FULL, x.singer(0, 0, 0, 1, 0));
        due("OUTSIDE goes ahead of FULL", OUTSIDE, x.singer(0, 64, 0, 1, 0));
        due("UNKNOWN goes ahead of FULL", UNKNOWN, x.singer(6, 0, 0, 1, 0));
        due("five singers", 5, x.count(1));
    }

    private static void told() {
        promise = 11;
        SongToBridge x = with("12cb");
        x.singer(1, 0b000110, 9, 4, 20);
        int[] before = {1, 6, 9, 9, 4, 20, 1};
        for (int what = 0; what < before.length; what++) {
            due("told(0, " + what + ")", before[what], x.told(0, what));
        }
        x.cross(0, 0);
        int[] then = {2, 6, 7, 9, 4, 20, 1};
        for (int what = 0; what < then.length; what++) {
            due("told(0, " + what + ") then", then[what], x.told(0, what));
        }
        x.singer(3, 0, 1, 1, 1);
        due("one who knows no verse forgets none", NONE, x.told(1, 6));
        due("told(0, 7)", OUTSIDE, x.told(0, 7));
        due("told(2, 0)", UNKNOWN, x.told(2, 0));
        due("UNKNOWN goes ahead of OUTSIDE", UNKNOWN, x.told(2, 7));
        for (int n : WRONG_NUMBERS) {
            due("told(" + n + ", 0)", UNKNOWN, x.told(n, 0));
            due("told(0, " + n + ")", OUTSIDE, x.told(0, n));
        }
    }

    private static void teach() {
        promise = 12;
        SongToBridge x = new SongToBridge();
        due("at first", NONE, x.teach(0, 0, 0));
        due("a fee of 0 is a fee", 0, x.teach(0, 0, 99));
        due("fee 100", OUTSIDE, x.teach(0, 0, 100));
        due("fee -2", OUTSIDE, x.teach(0, 0, -2));
        due("the same", 99, x.teach(0, 0, 99));
        due("no more", 99, x.teach(0, 0, NONE));
        due("none then", NONE, x.teach(0, 0, NONE));
        due("another place", NONE, x.teach(5, 5, 7));
        due("a place has its own fees", NONE, x.teach(4, 5, 8));
        due("place 6", UNKNOWN, x.teach(6, 0, 0));
        due("verse 6", UNKNOWN, x.teach(0, 6, 0));
        due("UNKNOWN goes ahead of OUTSIDE", UNKNOWN, x.teach(0, 6, 100));
        for (int n : WRONG_NUMBERS) {
            due("place " + n, UNKNOWN, x.teach(n, 0, 0));
            due("verse " + n, UNKNOWN, x.teach(0, n, 0));
        }
        due("fee least", OUTSIDE, x.teach(0, 0, Integer.MIN_VALUE));
        due("fee most", OUTSIDE, x.teach(0, 0, Integer.MAX_VALUE));
        due("fees told", 2, x.count(2));
        due("fee of the first", 7, x.teach(5, 5, 7));
    }

    private static void may() {
        promise = 13;
        SongToBridge x = with("01ab", "01?abc", "01~cab", "01!ababa", "12ab", "01?cc", "01~c", "01?c");
        x.singer(0, 0b011, 2, 6, 0);
        int[] all = {1, 2, 2, 1, 2, 0, 1, 1};
        for (int b = 0; b < all.length; b++) {
            due("may(0, " + b + ")", all[b], x.may(0, b));
        }
        x.singer(0, 0, 30, 6, 0);
        for (int b = 0; b < all.length; b++) {
            due("one who knows no verse: may(1, " + b + ")", 0, x.may(1, b));
        }
        x.singer(1, 0b100000, 30, 6, 0);
        int[] other = {0, 0, 0, 0, 0, 0, 1, 1};
        for (int b = 0; b < other.length; b++) {
            due("one who knows another verse: may(2, " + b + ")", other[b], x.may(2, b));
        }
        due("from the other place", 1, x.may(2, 6));
        due("no singer", UNKNOWN, x.may(3, 0));
        due("no bridge", UNKNOWN, x.may(0, 8));
        for (int n : WRONG_NUMBERS) {
            due("may(" + n + ", 0)", UNKNOWN, x.may(n, 0));
            due("may(0, " + n + ")", UNKNOWN, x.may(0, n));
        }
    }

    private static void cross() {
        promise = 14;
        SongToBridge x = with("01ab", "12!aaa", "34a", "20~ba");
        x.singer(0, 0b011, 5, 6, 0);
        due("over", 1, x.cross(0, 0));
        due("breath then", 3, x.told(0, 2));
        due("of an echo", 2, x.cross(0, 1));
        due("breath then", 2, x.told(0, 2));
        due("not its place", STATE, x.cross(0, 2));
        due("back", 1, x.cross(0, 1));
        due("too little breath", STATE, x.cross(0, 0));
        due("refusals change nothing", 1, x.told(0, 0));
        due("breath of a day", 5, x.told(0, 3));
        due("to the last breath", 2, x.cross(0, 1));
        due("no breath left", 0, x.told(0, 2));
        x.night();
        due("a worn one", 0, x.cross(0, 3));
        x.singer(1, 0b010, 9, 6, 0);
        due("it can't sing", STATE, x.cross(1, 0));
        due("no singer", UNKNOWN, x.cross(2, 0));
        due("no bridge", UNKNOWN, x.cross(0, 4));
        for (int n : WRONG_NUMBERS) {
            due("cross(" + n + ", 0)", UNKNOWN, x.cross(n, 0));
            due("cross(0, " + n + ")", UNKNOWN, x.cross(0, n));
        }
        crossingUses();
    }

    private static void crossingUses() {
        SongToBridge x = with("01~ab", "01?cd");
        x.singer(0, 0b000111, 30, 1, 0);
        x.cross(0, 0);
        due("c was never used", 2, x.told(0, 6));
        x.cross(0, 1);
        due("a worn one's first verse was used, too", 0, x.told(0, 6));
        x.cross(0, 0);
        due("c was not used for longest", 2, x.told(0, 6));
        SongToBridge y = with("01?ba");
        y.singer(0, 0b100010, 30, 1, 0);
        y.cross(0, 0);
        due("a verse that one does not know is not used", 5, y.told(0, 6));
    }

    private static void learn() {
        promise = 15;
        SongToBridge x = new SongToBridge();
        x.singer(2, 0b000001, 9, 6, 20);
        x.teach(2, 0, 0);
        x.teach(2, 1, 12);
        x.teach(3, 2, 0);
        x.teach(2, 3, 8);
        x.teach(2, 4, 0);
        x.teach(2, 5, 9);
        due("it knows it", STATE, x.learn(0, 0));
        due("taught elsewhere", STATE, x.learn(0, 2));
        due("learnt", 8, x.learn(0, 1));
        due("the fee is one more", 13, x.teach(2, 1, 13));
        due("more than its purse", STATE, x.learn(0, 5));
        due("refusals change nothing", 9, x.teach(2, 5, 9));
        due("just its purse", 0, x.learn(0, 3));
        due("for nothing", 0, x.learn(0, 4));
        due("the fee of nothing is one more", 1, x.teach(2, 4, 1));
        due("what it knows", 0b011011, x.told(0, 1));
        due("again", STATE, x.learn(0, 1));
        due("verse 6", UNKNOWN, x.learn(0, 6));
        due("no singer", UNKNOWN, x.learn(1, 0));
        for (int n : WRONG_NUMBERS) {
            due("learn(" + n + ", 0)", UNKNOWN, x.learn(n, 0));
            due("learn(0, " + n + ")", UNKNOWN, x.learn(0, n));
        }
        x.singer(0, 0b000010, 0, 1, 99);
        x.teach(0, 0, 99);
        due("all of its purse", 0, x.learn(1, 0));
        due("a fee is 99 at most", 99, x.teach(0, 0, 99));
        due("what is learnt is used", 1, x.told(1, 6));
    }

    private static void night() {
        promise = 16;
        SongToBridge x = with("01f", "01a");
        x.singer(0, 63, 7, 4, 0);
        x.singer(0, 0b111, 5, 3, 0);
        x.singer(0, 0b110000, 5, 1, 0);
        x.cross(0, 1);
        x.cross(0, 0);
        x.cross(2, 0);
        due("two forget", 2, x.night());
        due("the least that was never used", 0b111101, x.told(0, 1));
        due("no more than memory", 0b111, x.told(1, 1));
        due("never used is longest", 0b100000, x.told(2, 1));
        due("all breath again", 7, x.told(0, 2));
        due("all breath again", 5, x.told(2, 2));
        due("one forgets", 1, x.night());
        due("the next", 0b111001, x.told(0, 1));
        due("none forgets", 0, x.night());
        due("as it was", 0b111001, x.told(0, 1));
        oldestUseIsForgotten();
    }

    private static void oldestUseIsForgotten() {
        SongToBridge x = with("01c", "01ab");
        x.singer(0, 0b111, 30, 1, 0);
        x.cross(0, 0);
        x.cross(0, 1);
        due("c was used first", 1, x.night());
        due("c is gone", 0b011, x.told(0, 1));
        due("of like ones the least", 1, x.night());
        due("a is gone", 0b010, x.told(0, 1));
        due("the last is kept", 0, x.night());
    }

    private static void home() {
        promise = 17;
        SongToBridge x = with("01aaaaa", "02aa", "21aa", "10aaaa", "34a", "15f", "15?ef");
        x.singer(0, 0b000001, 4, 6, 0);
        due("it is there", 0, x.home(0, 0, 0));
        due("it is there: no bridge", NONE, x.home(0, 0, 1));
        due("the least breath", 4, x.home(0, 1, 0));
        due("of like ways the least bridge", 1, x.home(0, 1, 1));
        due("no way", NONE, x.home(0, 3, 0));
        due("no way: no bridge", NONE, x.home(0, 3, 1));
        due("can't sing", NONE, x.home(0, 5, 0));
        x.cross(0, 1);
        due("less breath is left", 2, x.home(0, 1, 0));
        x.cross(0, 2);
        due("no breath is left", NONE, x.home(0, 2, 0));
        due("no breath is left: no bridge", NONE, x.home(0, 2, 1));
        due("there without breath", 0, x.home(0, 1, 0));
        x.singer(0, 0b010001, 30, 6, 0);
        due("over three", 6, x.home(1, 5, 0));
        due("over three, first", 1, x.home(1, 5, 1));
        due("place 6", UNKNOWN, x.home(0, 6, 0));
        due("no singer", UNKNOWN, x.home(2, 0, 0));
        due("what 2", OUTSIDE, x.home(0, 0, 2));
        due("UNKNOWN goes ahead of OUTSIDE", UNKNOWN, x.home(0, 6, 2));
        for (int n : WRONG_NUMBERS) {
            due("home(" + n + ", 0, 0)", UNKNOWN, x.home(n, 0, 0));
            due("home(0, " + n + ", 0)", UNKNOWN, x.home(0, n, 0));
            due("home(0, 0, " + n + ")", OUTSIDE, x.home(0, 0, n));
        }
        SongToBridge y = with("10a", "01a");
        y.singer(0, 1, 30, 6, 0);
        due("of like bridges the least", 0, y.home(0, 1, 1));
        SongToBridge z = with("45a", "34a", "23a", "12a", "01a");
        z.singer(0, 1, 5, 6, 0);
        due("a way of five against the order of numbers", 5, z.home(0, 5, 0));
        due("its first", 4, z.home(0, 5, 1));
    }

    private static void reach() {
        promise = 18;
        SongToBridge x = with("45a", "34a", "23a", "12a", "01ab");
        x.singer(0, 0b11, 4, 6, 0);
        due("as far as the breath goes", 0b001111, x.reach(0));
        x.cross(0, 4);
        due("from there, and back", 0b001111, x.reach(0));
        x.singer(2, 0, 30, 6, 0);
        due("one who knows no verse stays", 0b000100, x.reach(1));
        x.singer(5, 1, 30, 6, 0);
        due("what it can sing", 0b111110, x.reach(2));
        due("no singer", UNKNOWN, x.reach(3));
        for (int n : WRONG_NUMBERS) {
            due("reach(" + n + ")", UNKNOWN, x.reach(n));
        }
    }

    private static void first() {
        promise = 19;
        SongToBridge x = with("01b", "02c", "23c", "04d", "45d", "05f");
        x.singer(0, 0b000001, 30, 6, 10);
        due("nothing is taught", NONE, x.first(0));
        x.teach(0, 4, 0);
        due("by e it has no more", NONE, x.first(0));
        x.teach(0, 1, 5);
        due("b", 1, x.first(0));
        x.teach(0, 3, 10);
        due("d leads to more", 3, x.first(0));
        x.teach(0, 2, 10);
        due("of like ones the least", 2, x.first(0));
        x.teach(0, 2, 11);
        due("more than its purse", 3, x.first(0));
        x.teach(0, 3, NONE);
        due("no more taught", 1, x.first(0));
        x.teach(1, 3, 0);
        due("taught elsewhere", 1, x.first(0));
        x.learn(0, 1);
        due("what it knows is not learnt", NONE, x.first(0));
        x.singer(0, 0b000001, 0, 6, 99);
        due("without breath it has no more", NONE, x.first(1));
        due("no singer", UNKNOWN, x.first(2));
        for (int n : WRONG_NUMBERS) {
            due("first(" + n + ")", UNKNOWN, x.first(n));
        }
        SongToBridge y = with("01?c");
        y.singer(0, 0, 30, 6, 10);
        y.teach(0, 5, 10);
        due("any verse opens a deaf one", 5, y.first(0));
        y.teach(0, 0, 10);
        due("of like ones a", 0, y.first(0));
    }

    private static void cheapest() {
        promise = 20;
        SongToBridge x = with("01b", "12c", "23d", "03ef");
        x.singer(0, 0b000001, 0, 1, 20);
        due("it is there", 0, x.cheapest(0, 0, 0));
        due("it is there: no verse", 0, x.cheapest(0, 0, 1));
        due("by no verses", NONE, x.cheapest(0, 1, 0));
        due("by no verses", NONE, x.cheapest(0, 1, 1));
        x.teach(0, 1, 4);
        x.teach(0, 2, 9);
        x.teach(1, 2, 3);
        x.teach(2, 3, 5);
        due("learnt where it is cheapest", 7, x.cheapest(0, 2, 0));
        due("two verses", 0b000110, x.cheapest(0, 2, 1));
        due("three", 12, x.cheapest(0, 3, 0));
        due("three verses", 0b001110, x.cheapest(0, 3, 1));
        x.teach(0, 4, 6);
        x.teach(0, 5, 6);
        due("of like ones the least", 0b001110, x.cheapest(0, 3, 1));
        x.teach(0, 5, 5);
        due("the other way is cheaper", 11, x.cheapest(0, 3, 0));
        due("its verses", 0b110000, x.cheapest(0, 3, 1));
        due("nothing is done", 4, x.teach(0, 1, 4));
        x.teach(0, 4, 16);
        x.teach(2, 3, 14);
        due("more than its purse", NONE, x.cheapest(0, 3, 0));
        due("more than its purse", NONE, x.cheapest(0, 3, 1));
        x.teach(2, 3, 13);
        due("just its purse", 20, x.cheapest(0, 3, 0));
        due("no way at all", NONE, x.cheapest(0, 5, 0));
        due("place 6", UNKNOWN, x.cheapest(0, 6, 0));
        due("no singer", UNKNOWN, x.cheapest(1, 0, 0));
        due("what 2", OUTSIDE, x.cheapest(0, 0, 2));
        due("UNKNOWN goes ahead of OUTSIDE", UNKNOWN, x.cheapest(1, 0, 2));
        for (int n : WRONG_NUMBERS) {
            due("cheapest(" + n + ", 0, 0)", UNKNOWN, x.cheapest(n, 0, 0));
            due("cheapest(0, " + n + ", 0)", UNKNOWN, x.cheapest(0, n, 0));
            due("cheapest(0, 0, " + n + ")", OUTSIDE, x.cheapest(0, 0, n));
        }
        SongToBridge y = with("01c", "01ab");
        y.singer(0, 0, 30, 6, 0);
        y.teach(0, 2, 0);
        y.teach(0, 1, 0);
        y.teach(0, 0, 0);
        due("the least bits, not the fewest", 0b000011, y.cheapest(0, 1, 1));
        SongToBridge z = with("01abcde", "12!abcde", "25?fff");
        z.singer(0, 0, 0, 1, 99);
        for (int v = 0; v < 6; v++) {
            z.teach(v == 5 ? 2 : 0, v, 16);
        }
        due("all verses", 96, z.cheapest(0, 5, 0));
        due("all verses", 63, z.cheapest(0, 5, 1));
    }

    private static void choir() {
        promise = 21;
        SongToBridge x = with("01a", "12b", "23c", "34?de");
        due("nobody is needed to stay", 0, x.choir(3, 3, 0));
        due("nobody is needed to stay", 0, x.choir(3, 3, 1));
        due("nobody is there", NONE, x.choir(0, 1, 0));
        x.singer(5, 0b000001, 0, 6, 0);
        x.singer(5, 0b000010, 0, 6, 0);
        x.singer(5, 0b000100, 0, 6, 0);
        x.singer(5, 0b000110, 0, 6, 0);
        due("one", 1, x.choir(1, 0, 0));
        due("which one", 0b00001, x.choir(1, 0, 1));
        due("two", 2, x.choir(0, 3, 0));
        due("which two", 0b01001, x.choir(0, 3, 1));
        due("of like ones the least", 0b00010, x.choir(1, 2, 1));
        due("not even by all", NONE, x.choir(0, 4, 0));
        due("not even by all", NONE, x.choir(0, 4, 1));
        x.singer(0, 0b010000, 0, 6, 0);
        due("a deaf one", 3, x.choir(0, 4, 0));
        due("a deaf one", 0b11001, x.choir(0, 4, 1));
        due("place 6", UNKNOWN, x.choir(6, 0, 0));
        due("place 6", UNKNOWN, x.choir(0, 6, 0));
        due("what 2", OUTSIDE, x.choir(0, 0, 2));
        due("UNKNOWN goes ahead of OUTSIDE", UNKNOWN, x.choir(0, 6, 2));
        for (int n : WRONG_NUMBERS) {
            due("choir(" + n + ", 0, 0)", UNKNOWN, x.choir(n, 0, 0));
            due("choir(0, " + n + ", 0)", UNKNOWN, x.choir(0, n, 0));
            due("choir(0, 0, " + n + ")", OUTSIDE, x.choir(0, 0, n));
        }
        choirOfAll();
    }

    private static void choirOfAll() {
        SongToBridge x = with("01a", "12b", "23c", "34d", "45e");
        for (int s = 0; s < 5; s++) {
            x.singer(0, 1 << s, 0, 1, 0);
        }
        due("all five", 5, x.choir(0, 5, 0));
        due("all five", 0b11111, x.choir(5, 0, 1));
        due("four", 0b11110, x.choir(1, 5, 1));
    }

    private static void heard() {
        promise = 22;
        SongToBridge x = with("01a", "12b");
        due("no bridge", UNKNOWN, x.heard(2));
        for (int n : WRONG_NUMBERS) {
            due("heard(" + n + ")", UNKNOWN, x.heard(n));
        }
        for (int i = 1; i <= 10; i++) {
            due("the so-manieth", i, x.heard(i % 2));
        }
        due("an eleventh", FULL, x.heard(0));
        due("UNKNOWN goes ahead of FULL", UNKNOWN, x.heard(2));
        due("ten", 10, x.count(3));
    }

    private static void hush() {
        promise = 23;
        SongToBridge x = with("01a", "23b");
        due("nothing was heard", 0, x.hush());
        x.heard(0);
        x.heard(1);
        due("two were", 2, x.hush());
        due("none then", 0, x.count(3));
        x.singer(0, 2, 30, 6, 0);
        due("from anew", 1, x.heard(1));
        due("what was heard is gone", 1, x.who());
    }

    private static void who() {
        promise = 24;
        SongToBridge x = with("01ab", "12!aa", "23a", "02b");
        x.singer(5, 0b11, 3, 1, 0);
        x.singer(0, 0b11, 2, 1, 0);
        x.singer(0, 0b01, 30, 1, 0);
        due("nothing was heard: all", 0b111, x.who());
        x.heard(1);
        due("all", 0b111, x.who());
        x.heard(0);
        due("enough breath, and all verses", 0b001, x.who());
        x.heard(2);
        due("no such way", 0, x.who());
        x.hush();
        x.heard(2);
        x.heard(2);
        due("there and back", 0b111, x.who());
        x.heard(1);
        due("not behind both", 0b101, x.who());
        x.hush();
        x.heard(2);
        x.heard(2);
        x.heard(2);
        x.heard(1);
        due("from the other end", 0b100, x.who());
        x.hush();
        x.heard(0);
        x.heard(1);
        x.heard(0);
        due("over twice, with a break", 0, x.who());
        x.hush();
        x.heard(3);
        x.heard(2);
        x.heard(1);
        due("a break behind the second", 0, x.who());
        x.hush();
        x.singer(0, 0b10, 4, 1, 0);
        x.heard(3);
        x.cross(3, 3);
        x.cross(3, 3);
        x.heard(3);
        x.heard(3);
        x.heard(3);
        due("all breath of a day counts", 0b1000, x.who());
        SongToBridge y = with("01a", "10a");
        y.singer(0, 1, 2, 1, 0);
        y.heard(0);
        y.heard(1);
        due("two bridges of the same places", 1, y.who());
    }

    private static void wander() {
        promise = 25;
        SongToBridge x = with("01a", "01b", "12a", "01?f");
        x.singer(0, 0b000011, 7, 6, 0);
        wanderAsDrawn(x, 12345);
        wanderAsDrawn(x, 0);
        wanderAsDrawn(x, Integer.MAX_VALUE);
        due("it stays where it is", 0, x.told(0, 0));
        due("it keeps its breath", 7, x.told(0, 2));
        x.singer(5, 63, 30, 6, 0);
        due("it waits", 5, x.wander(1, 60, 77, 0));
        due("it waits with its breath", 30, x.wander(1, 60, 77, 1));
        due("it crosses none", 0, x.wander(1, 60, 77, 2));
        due("without a draw", 77, x.wander(1, 60, 77, 3));
        due("no singer", UNKNOWN, x.wander(2, 1, 0, 0));
        due("turns 0", OUTSIDE, x.wander(0, 0, 0, 0));
        due("turns 61", OUTSIDE, x.wander(0, 61, 0, 0));
        due("seed -1", OUTSIDE, x.wander(0, 1, -1, 0));
        due("what 4", OUTSIDE, x.wander(0, 1, 0, 4));
        due("UNKNOWN goes ahead of OUTSIDE", UNKNOWN, x.wander(2, 0, -1, 4));
        for (int n : WRONG_NUMBERS) {
            due("wander(" + n + ", 1, 0, 0)", UNKNOWN, x.wander(n, 1, 0, 0));
            due("wander(0, " + n + ", 0, 0)", OUTSIDE, x.wander(0, n, 0, 0));
            due("wander(0, 1, 0, " + n + ")", OUTSIDE, x.wander(0, 1, 0, n));
        }
    }

    /** The places and bridges of wander() above: 0 and 1 are joined by three, 1 and 2 by one; each costs one breath. */
    private static void wanderAsDrawn(SongToBridge x, int firstSeed) {
        long seed = firstSeed;
        int place = 0;
        for (int turn = 1; turn <= 9; turn++) {
            if (turn <= 7) {
                seed = (1103515245L * seed + 12345L) % 2147483648L;
                int choices = place == 0 ? 3 : place == 1 ? 4 : 1;
                int draw = (int) (seed / 65536L % choices);
                place = place != 1 ? 1 : draw == 2 ? 2 : 0;
            }
            due("place by turn " + turn, place, x.wander(0, turn, firstSeed, 0));
            due("breath by turn " + turn, Math.max(0, 7 - turn), x.wander(0, turn, firstSeed, 1));
            due("crossed by turn " + turn, Math.min(7, turn), x.wander(0, turn, firstSeed, 2));
            due("seed by turn " + turn, seed, x.wander(0, turn, firstSeed, 3));
        }
    }

    private static void image() {
        promise = 26;
        SongToBridge x = new SongToBridge();
        due("image() of none", 0, x.image());
        x.singer(0, 0, 0, 1, 0);
        x.singer(1, 0, 0, 1, 0);
        due("image() of two", 2, x.image());
        x.singer(2, 0, 0, 1, 0);
        due("the latest is kept", 2, x.restore());
        due("image() changes nothing", 2, x.image());
        due("two singers", 2, x.count(1));
    }

    private static void restore() {
        promise = 27;
        SongToBridge x = with("01a", "12!bb");
        due("none was kept", STATE, x.restore());
        x.singer(0, 0b000011, 9, 1, 30);
        x.teach(1, 2, 5);
        x.heard(1);
        x.cross(0, 0);
        x.image();
        long before = x.digest();
        for (int again = 0; again < 2; again++) {
            x.cross(0, 1);
            x.cross(0, 1);
            x.learn(0, 2);
            x.change(1, 0, 4);
            x.change(0, 0, 1);
            x.teach(5, 5, 5);
            x.heard(0);
            x.night();
            x.singer(3, 63, 1, 1, 1);
            build(x, "34?c");
            due("restore()", 1, x.restore());
            due("all is as it was", before, x.digest());
            due("what would be forgotten is as it was", 1, x.told(0, 6));
            due("a bridge that came since is gone", UNKNOWN, x.about(2, 0));
            due("a singer who came since is gone", UNKNOWN, x.told(1, 0));
        }
        due("a number is free again", 2, build(x, "45~e"));
        due("with what it has anew", 3, x.about(2, 0));
        x.singer(4, 0b000001, 2, 2, 2);
        due("a singer anew", 2, x.told(1, 5));
        x.restore();
        write(x, "01?");
        due("restore() with a page", 1, x.restore());
        due("the page is not of the image", 3, x.count(4));
        x.hush();
        x.heard(0);
        x.restore();
        due("what was heard is back", 1, x.count(3));
        due("and is the same", before, digestWithoutPage(x));
        restoreOfTheFirst();
    }

    private static long digestWithoutPage(SongToBridge x) {
        x.blank();
        return x.digest();
    }

    private static void restoreOfTheFirst() {
        SongToBridge x = new SongToBridge();
        x.teach(0, 0, 7);
        x.image();
        build(x, "01abcde");
        x.singer(0, 0b000111, 9, 1, 0);
        build(x, "01c");
        x.cross(0, 1);
        x.teach(0, 0, 8);
        x.restore();
        due("the fee of place 0", 7, x.teach(0, 0, 7));
        build(x, "23!ff");
        due("a shorter song behind a longer one", 2, x.about(0, 3));
        due("its third verse", NONE, x.about(0, 7));
        x.singer(0, 0b000100, 9, 1, 0);
        x.teach(0, 1, 0);
        x.learn(0, 1);
        due("what one who is gone used does not count", 2, x.told(0, 6));
    }

    private static void count() {
        promise = 28;
        SongToBridge x = with("01a", "12b", "23c");
        x.singer(0, 0, 0, 1, 0);
        x.singer(0, 0, 0, 1, 0);
        x.teach(0, 0, 0);
        x.teach(5, 5, 99);
        x.teach(3, 4, 1);
        x.teach(3, 5, 1);
        x.teach(3, 5, NONE);
        x.heard(0);
        write(x, "01abc");
        int[] all = {3, 2, 3, 1, 5};
        for (int what = 0; what < all.length; what++) {
            due("count(" + what + ")", all[what], x.count(what));
        }
        due("count(5)", OUTSIDE, x.count(5));
        for (int n : WRONG_NUMBERS) {
            due("count(" + n + ")", OUTSIDE, x.count(n));
        }
    }

    private static void digest() {
        promise = 29;
        SongToBridge x = new SongToBridge();
        due("digest() of a new object", digestByCalls(x, ""), x.digest());
        build(x, "01ab");
        build(x, "15?ab");
        build(x, "23~c");
        x.singer(0, 0b000001, 9, 2, 30);
        x.singer(1, 0b000011, 3, 1, 9);
        due("digest() with singers", digestByCalls(x, ""), x.digest());
        x.teach(0, 1, 4);
        x.teach(5, 5, 9);
        x.heard(1);
        x.heard(0);
        due("digest() with fees", digestByCalls(x, "", 1, 0), x.digest());
        x.learn(0, 1);
        x.cross(0, 0);
        write(x, "01~?zz");
        due("digest() with a page", digestByCalls(x, "01~?zz", 1, 0), x.digest());
        due("digest() changes nothing", x.digest(), x.digest());
        x.hush();
        x.heard(2);
        due("digest() of another heard one", digestByCalls(x, "01~?zz", 2), x.digest());
    }

    private static long digestByCalls(SongToBridge x, String page, int... heard) {
        long h = 599;
        for (int b = 0; b < x.count(0); b++) {
            for (int what = 0; what < 10; what++) {
                h = 31 * h + x.about(b, what);
            }
            h = 31 * h + x.alike(b);
        }
        for (int s = 0; s < x.count(1); s++) {
            for (int what = 0; what < 7; what++) {
                h = 31 * h + x.told(s, what);
            }
            h = 31 * h + x.reach(s);
            h = 31 * h + x.first(s);
            h = 31 * h + x.cheapest(s, 5, 0);
            h = 31 * h + x.cheapest(s, 5, 1);
        }
        for (int place = 0; place < 6; place++) {
            for (int verse = 0; verse < 6; verse++) {
                int fee = x.teach(place, verse, NONE);
                x.teach(place, verse, fee);
                h = 31 * h + fee;
            }
        }
        for (int b : heard) {
            h = 31 * h + b;
        }
        h = 31 * h + x.who();
        h = 31 * h + x.choir(0, 5, 0);
        h = 31 * h + x.choir(0, 5, 1);
        for (char letter : page.toCharArray()) {
            h = 31 * h + letter;
        }
        for (int what = 0; what < 5; what++) {
            h = 31 * h + x.count(what);
        }
        return h;
    }
}
