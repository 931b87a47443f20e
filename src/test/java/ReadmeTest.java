import java.io.IOException;
import java.nio.file.Files;
import java.nio.file.Path;

/** The example in README.md answers what its comments say. */
public final class ReadmeTest {
    private static String readme = "";
    private static int line = 0;
    private static int shown = 0;
    private static int wrong = 0;

    public static void main(String[] args) throws IOException {
        readme = Files.readString(Path.of("README.md"));
        SongToBridge x = new SongToBridge();
        due("x.letters(0x62613130L);", x.letters(0x62613130L));
        int bridge = x.bridge();
        due("int bridge = x.bridge();", bridge);
        int singer = x.singer(0, 0b011, 6, 2, 10);
        due("int singer = x.singer(0, 0b011, 6, 2, 10);", singer);
        due("x.may(singer, bridge);", x.may(singer, bridge));
        due("x.cross(singer, bridge);", x.cross(singer, bridge));
        due("x.told(singer, 2);", x.told(singer, 2));
        due("x.home(singer, 0, 0);", x.home(singer, 0, 0));
        due("x.teach(1, 2, 4);", x.teach(1, 2, 4));
        due("x.learn(singer, 2);", x.learn(singer, 2));
        due("x.told(singer, 6);", x.told(singer, 6));
        due("x.night();", x.night());
        due("x.may(singer, bridge);", x.may(singer, bridge));
        due("x.cross(singer, bridge);", x.cross(singer, bridge));
        noneIsLeft();
        System.out.println(shown + " calls of the example, " + wrong + " not as the README says");
        if (wrong != 0) {
            System.exit(1);
        }
    }

    /** The next line of the example must be this call, and its comment must begin with this answer. */
    private static void due(String call, int answer) {
        shown++;
        String line = nextLine();
        if (!line.matches("\\Q" + call + "\\E *// " + answer + ": .*")) {
            wrong++;
            System.out.println(call + " answers " + answer + ", the README says: " + line);
        }
    }

    private static void noneIsLeft() {
        String line = nextLine();
        if (!line.equals("```")) {
            wrong++;
            System.out.println("not tried out: " + line);
        }
    }

    /** The lines of the example behind the one that makes the object. */
    private static String nextLine() {
        String start = "SongToBridge x = new SongToBridge();\n";
        int at = readme.indexOf(start);
        String[] lines = at < 0 ? new String[0] : readme.substring(at + start.length()).split("\n");
        line++;
        return line <= lines.length ? lines[line - 1] : "";
    }
}
