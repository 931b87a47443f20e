import java.io.IOException;
import java.lang.reflect.InvocationTargetException;
import java.lang.reflect.Method;
import java.nio.file.Files;
import java.nio.file.Path;
import java.util.ArrayList;
import java.util.Arrays;
import java.util.Comparator;
import java.util.List;
import java.util.function.Supplier;
import java.util.function.ToLongFunction;

/** What the tests of edges share: checks, ready-made objects, and a story that tells all that an object holds. */
final class Check {
    static final int NONE = -1, UNKNOWN = -101, OUTSIDE = -102, STATE = -103, FULL = -104;
    /** Far below and far above all numbers of the document. */
    static final int[] FAR = {Integer.MIN_VALUE, Integer.MIN_VALUE + 1, -1000, 1000, Integer.MAX_VALUE - 1,
        Integer.MAX_VALUE};
    private static final Path DOCUMENT = Path.of("..", "shared", "DOC.md");

    private static String running = "";
    private static int right = 0;
    private static int wrong = 0;

    private Check() {
    }

    /** Runs each method that bears a sentence, and ends with exit code 1 if something is not as due. */
    static void runAll(Class<?> tests) throws IOException {
        Method[] all = tests.getDeclaredMethods();
        Arrays.sort(all, Comparator.comparing(Method::getName));
        String document = Files.exists(DOCUMENT) ? inOneLine(Files.readString(DOCUMENT)) : null;
        int edges = 0;
        for (Method test : all) {
            Says says = test.getAnnotation(Says.class);
            if (says != null) {
                edges++;
                running = "promise " + says.promise() + ", " + test.getName() + " (" + says.text() + ")";
                if (document != null && !document.contains(inOneLine(says.text()))) {
                    fail("the document does not say so");
                }
                run(test);
            }
        }
        System.out.println(edges + " edges, " + right + " checks as due, " + wrong + " not");
        if (wrong != 0 || edges == 0) {
            System.exit(1);
        }
    }

    private static void run(Method test) {
        try {
            test.setAccessible(true);
            test.invoke(null);
        } catch (InvocationTargetException thrown) {
            fail("threw " + thrown.getCause());
        } catch (IllegalAccessException unheard) {
            fail("can't be run");
        }
    }

    private static String inOneLine(String text) {
        return text.replaceAll("\\s+", " ");
    }

    private static void fail(String why) {
        wrong++;
        System.out.println(running + ": " + why);
    }

    static void due(String what, long want, long got) {
        if (got == want) {
            right++;
        } else {
            fail(what + " answered " + got + ", due is " + want);
        }
    }

    /** A call is refused, and an object of which it was asked tells the same story as one of which it was not. */
    static void refused(String what, int want, Supplier<SongToBridge> made, ToLongFunction<SongToBridge> call) {
        SongToBridge asked = made.get();
        due(what, want, call.applyAsLong(asked));
        tellsSame(what, made.get(), asked);
    }

    /** A call that only asks is answered, and leaves the object as it was. */
    static void asks(String what, Supplier<SongToBridge> made, ToLongFunction<SongToBridge> call) {
        SongToBridge asked = made.get();
        long answer = call.applyAsLong(asked);
        due(what + " again", answer, call.applyAsLong(asked));
        tellsSame(what, made.get(), asked);
    }

    private static void tellsSame(String what, SongToBridge untouched, SongToBridge asked) {
        List<Long> want = story(untouched);
        List<Long> got = story(asked);
        due(what + " changed something (chapter " + firstUnlike(want, got) + ")", 1, want.equals(got) ? 1 : 0);
    }

    private static int firstUnlike(List<Long> one, List<Long> other) {
        int i = 0;
        while (i < one.size() && one.get(i).equals(other.get(i))) {
            i++;
        }
        return i;
    }

    /** All that an object holds, what its image holds, too; the object is spent by it. */
    private static List<Long> story(SongToBridge x) {
        List<Long> told = new ArrayList<>();
        told.add((long) x.fault());
        tellNights(x, told);
        told.add((long) x.restore());
        tellNights(x, told);
        return told;
    }

    /** Night by night what is forgotten shows in which order verses were used. */
    private static void tellNights(SongToBridge x, List<Long> told) {
        told.add(x.digest());
        for (int night = 0; night < 6; night++) {
            told.add((long) x.night());
            told.add(x.digest());
        }
    }

    static long word(String text) {
        long w = 0;
        for (int i = text.length() - 1; i >= 0; i--) {
            w = w << 8 | text.charAt(i);
        }
        return w;
    }

    /** Puts a text of any size on the page. */
    static void write(SongToBridge x, String text) {
        for (int at = 0; at < text.length(); at += 8) {
            x.letters(word(text.substring(at, Math.min(at + 8, text.length()))));
        }
    }

    static SongToBridge page(String text) {
        SongToBridge x = new SongToBridge();
        write(x, text);
        return x;
    }

    static int build(SongToBridge x, String text) {
        x.blank();
        write(x, text);
        return x.bridge();
    }

    static SongToBridge with(String... bridges) {
        SongToBridge x = new SongToBridge();
        for (String text : bridges) {
            build(x, text);
        }
        return x;
    }

    /** Hears these bridges and no other. */
    static void hear(SongToBridge x, int... bridges) {
        x.hush();
        for (int b : bridges) {
            x.heard(b);
        }
    }

    /** An object that holds some of everything, with an image that is not as it is now. */
    static SongToBridge some() {
        SongToBridge x = with("01ab", "12?cd", "23!eef");
        x.singer(0, 0b001111, 30, 1, 50);
        x.singer(1, 0b111111, 9, 2, 7);
        x.teach(0, 4, 5);
        x.teach(1, 5, 99);
        x.heard(1);
        x.cross(0, 0);
        x.image();
        build(x, "30~ba");
        x.singer(2, 0b110000, 12, 1, 0);
        x.cross(2, 2);
        x.cross(0, 1);
        x.cross(1, 1);
        x.learn(0, 4);
        x.teach(2, 3, 0);
        x.heard(2);
        write(x, "45?");
        return x;
    }

    /** An object in which nothing more has room, with an image of an emptier one. */
    static SongToBridge full() {
        SongToBridge x = some();
        for (int b = 4; b < 9; b++) {
            build(x, "34abcde");
        }
        for (int s = 3; s < 5; s++) {
            x.singer(3, 0b011111, 20, 1, 99);
        }
        for (int i = 2; i < 10; i++) {
            x.heard(i % 9);
        }
        x.blank();
        write(x, "01abcdefghijklmn");
        return x;
    }

    /** Like full(), but with this text on the page. */
    static SongToBridge fullWith(String text) {
        SongToBridge x = full();
        x.blank();
        write(x, text);
        return x;
    }
}
