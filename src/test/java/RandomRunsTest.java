import java.math.BigInteger;
import java.util.ArrayList;
import java.util.Arrays;
import java.util.HashSet;
import java.util.List;
import java.util.Map;
import java.util.Random;
import java.util.Set;
import java.util.TreeMap;

/** Runs of random calls: each answer is held against a slow model that tries out every way. */
public final class RandomRunsTest {
    private static final int NONE = -1, UNKNOWN = -101, OUTSIDE = -102, STATE = -103, FULL = -104;
    private static final int RUNS = 400;
    private static final int CALLS = 512;

    /** Each call, with how many numbers each of its arguments may be (from 0). */
    private static final Object[][] FACE = {
        {"letters"}, {"blank"}, {"fault"}, {"bridge"}, {"about", 9, 10}, {"as", 9, 4}, {"change", 9, 5, 6},
        {"alike", 9}, {"singer", 6, 64, 31, 7, 100}, {"told", 5, 7}, {"teach", 6, 6, 100}, {"may", 5, 9},
        {"cross", 5, 9}, {"learn", 5, 6}, {"night"}, {"home", 5, 6, 2}, {"reach", 5}, {"first", 5},
        {"cheapest", 5, 6, 2}, {"choir", 6, 6, 2}, {"heard", 9}, {"hush"}, {"who"}, {"wander", 5, 61, 1000000, 4},
        {"image"}, {"restore"}, {"count", 5}, {"digest"}};
    /** Calls without which a run stays poor come more often. */
    private static final String[] OFTEN = {"letters", "letters", "letters", "letters", "singer", "singer", "teach",
        "teach", "may", "cross", "cross", "cross", "learn", "learn", "home", "first", "cheapest", "choir", "heard",
        "who", "wander"};
    /** Calls that take much away come less often. */
    private static final List<String> SELDOM = List.of("blank", "hush", "restore", "night");
    private static final List<String> TRIED = List.of("about", "as", "change", "alike", "may", "cross", "learn",
        "heard", "told");

    private static final Map<String, Integer> answered = new TreeMap<>();

    public static void main(String[] args) throws ReflectiveOperationException {
        int wrong = 0;
        for (int run = 0; run < RUNS; run++) {
            if (!runAgrees(run)) {
                wrong++;
            }
        }
        for (Object[] row : FACE) {
            if (answered.getOrDefault((String) row[0], 0) < RUNS) {
                System.out.println(row[0] + " was hardly asked: " + answered.get(row[0]));
                wrong++;
            }
        }
        System.out.println(RUNS + " runs, " + wrong + " not as due");
        if (wrong != 0) {
            System.exit(1);
        }
    }

    private static boolean runAgrees(int run) throws ReflectiveOperationException {
        Random random = new Random(run);
        SongToBridge x = new SongToBridge();
        Model model = new Model();
        StringBuilder story = new StringBuilder();
        String last = "";
        for (int i = 0; i < CALLS; i++) {
            Call call = anyCall(random, nextName(random, last), model);
            long want = call.ask(model);
            last = call.name.equals("bridge") && want == STATE ? "misread" : call.name;
            long got = call.ask(x);
            story.append(call).append(" = ").append(got).append("; ");
            if (!isRefusal(want)) {
                answered.merge(call.name, 1, Integer::sum);
            }
            if (got != want) {
                System.out.println("run " + run + ": " + story + "due is " + want);
                return false;
            }
        }
        return true;
    }

    private static String nextName(Random random, String last) {
        if (last.equals("letters") && random.nextInt(8) != 0) {
            return "bridge";
        }
        if (last.equals("misread") && random.nextInt(8) != 0) {
            return "blank";
        }
        if (random.nextInt(2) == 0) {
            return OFTEN[random.nextInt(OFTEN.length)];
        }
        String name = (String) FACE[random.nextInt(FACE.length)][0];
        return SELDOM.contains(name) && random.nextInt(3) != 0 ? "digest" : name;
    }

    /** Of some calls several are tried out on a copy, so that fewer are refused. */
    private static Call anyCall(Random random, String name, Model model) throws ReflectiveOperationException {
        Call call = new Call(random, name);
        for (int more = random.nextInt(20); more > 0 && TRIED.contains(name); more--) {
            if (!isRefusal(call.ask(Model.copyOf(model)))) {
                break;
            }
            call = new Call(random, name);
        }
        return call;
    }

    private static boolean isRefusal(long answer) {
        return answer >= FULL && answer <= UNKNOWN;
    }

    private static final class Call {
        final String name;
        final Object[] arguments;

        Call(Random random, String itsName) {
            name = itsName;
            arguments = name.equals("letters") ? new Object[] {text(random)} : numbers(random, name);
        }

        private static Object[] numbers(Random random, String name) {
            Object[] limits = {};
            for (Object[] row : FACE) {
                limits = row[0].equals(name) ? Arrays.copyOfRange(row, 1, row.length) : limits;
            }
            Object[] numbers = new Object[limits.length];
            for (int i = 0; i < limits.length; i++) {
                int limit = (Integer) limits[i];
                numbers[i] = random.nextInt(60) == 0 ? wrongNumber(random, limit) : random.nextInt(limit);
            }
            if (name.equals("singer") && random.nextInt(2) == 0) {
                numbers[1] = 1 << random.nextInt(6) | 1 << random.nextInt(6);
            }
            if (name.equals("teach") && random.nextInt(3) != 0) {
                numbers[2] = random.nextInt(5) - 1;
            }
            return numbers;
        }

        private static int wrongNumber(Random random, int limit) {
            int[] numbers = {-1, -2, limit, limit + 1, Integer.MAX_VALUE, Integer.MIN_VALUE, 100, 2147483000};
            return numbers[random.nextInt(numbers.length)];
        }

        private static long text(Random random) {
            if (random.nextInt(20) == 0) {
                return random.nextLong();
            }
            StringBuilder text = new StringBuilder();
            text.append(random.nextInt(6)).append(random.nextInt(6));
            int sign = random.nextInt(8);
            text.append(sign < 4 ? "" : sign == 4 ? "!" : sign == 5 ? "~" : "?");
            int size = 1 + random.nextInt(1 + random.nextInt(5));
            for (int i = 0; i < size; i++) {
                text.append((char) ('a' + random.nextInt(1 + random.nextInt(6))));
            }
            if (random.nextInt(12) == 0) {
                text.setCharAt(random.nextInt(text.length()), "05?!~afgz 1".charAt(random.nextInt(11)));
            }
            if (random.nextInt(12) == 0) {
                text.setLength(random.nextInt(text.length() + 1));
            }
            long w = 0;
            for (int i = text.length() - 1; i >= 0; i--) {
                w = w << 8 | text.charAt(i);
            }
            return w;
        }

        long ask(Object of) throws ReflectiveOperationException {
            Class<?>[] types = new Class<?>[arguments.length];
            Arrays.fill(types, name.equals("letters") ? long.class : int.class);
            return ((Number) of.getClass().getDeclaredMethod(name, types).invoke(of, arguments)).longValue();
        }

        @Override
        public String toString() {
            return name + Arrays.toString(arguments);
        }
    }

    private static final class One {
        int place;
        Set<Character> verses = new HashSet<>();
        int breath;
        int day;
        int memory;
        int purse;
        /** The verses of each use, the latest last. */
        List<String> uses = new ArrayList<>();

        One copy() {
            One c = new One();
            c.place = place;
            c.verses = new HashSet<>(verses);
            c.breath = breath;
            c.day = day;
            c.memory = memory;
            c.purse = purse;
            c.uses = new ArrayList<>(uses);
            return c;
        }

        /** How many uses ago the verse was used; very many, if never. */
        int ago(char v) {
            for (int i = uses.size() - 1; i >= 0; i--) {
                if (uses.get(i).indexOf(v) >= 0) {
                    return uses.size() - i;
                }
            }
            return 1000000;
        }

        void use(String song) {
            String used = "";
            for (char v : song.toCharArray()) {
                used += verses.contains(v) ? "" + v : "";
            }
            uses.add(used);
        }

        int forgets() {
            int longest = 0;
            int found = NONE;
            for (char v = 'a'; v <= 'f'; v++) {
                if (verses.contains(v) && ago(v) > longest) {
                    longest = ago(v);
                    found = v - 'a';
                }
            }
            return found;
        }
    }

    private static final class Model {
        String page = "";
        List<String> bridges = new ArrayList<>();
        List<One> singers = new ArrayList<>();
        Integer[][] fees = new Integer[6][6];
        List<Integer> heard = new ArrayList<>();
        Model kept = null;

        static Model copyOf(Model m) {
            Model c = new Model();
            c.bridges = new ArrayList<>(m.bridges);
            for (One one : m.singers) {
                c.singers.add(one.copy());
            }
            for (int p = 0; p < 6; p++) {
                c.fees[p] = m.fees[p].clone();
            }
            c.heard = new ArrayList<>(m.heard);
            return c;
        }

        static Set<Character> set(int bits) {
            Set<Character> all = new HashSet<>();
            for (int v = 0; v < 6; v++) {
                if ((bits >> v & 1) == 1) {
                    all.add((char) ('a' + v));
                }
            }
            return all;
        }

        static int bits(Set<Character> all) {
            int bits = 0;
            for (char v : all) {
                bits += 1 << v - 'a';
            }
            return bits;
        }

        static String song(String bridge) {
            return bridge.replaceAll("[^a-f]", "");
        }

        static int kind(String bridge) {
            return bridge.contains("?") ? 1 : bridge.contains("!") ? 2 : bridge.contains("~") ? 3 : 0;
        }

        static int end(String bridge, int i) {
            return bridge.charAt(i) - '0';
        }

        static int length(String bridge) {
            return kind(bridge) == 2 ? (int) song(bridge).chars().distinct().count() : song(bridge).length();
        }

        static boolean sings(Set<Character> verses, String bridge) {
            String looked = kind(bridge) == 3 ? song(bridge).substring(1) : song(bridge);
            long lacking = looked.chars().filter(v -> !verses.contains((char) v)).count();
            boolean deaf = kind(bridge) == 1 || kind(bridge) == 3;
            return deaf ? lacking < 2 && !verses.isEmpty() : lacking == 0;
        }

        boolean noBridge(int n) {
            return n < 0 || n >= bridges.size();
        }

        boolean noSinger(int n) {
            return n < 0 || n >= singers.size();
        }

        static boolean notSix(int n) {
            return n < 0 || n > 5;
        }

        static boolean notTwo(int n) {
            return n != 0 && n != 1;
        }

        int letters(long w) {
            String all = "";
            for (int i = 0; i < 8; i++) {
                all += (char) (w >>> 8 * i & 0xff);
            }
            if (!all.matches("(?s)[\\x01-\\x7e]*\\x00*")) {
                return OUTSIDE;
            }
            String more = all.replace("\0", "");
            if (page.length() + more.length() > 16) {
                return FULL;
            }
            page += more;
            return page.length();
        }

        int blank() {
            int had = page.length();
            page = "";
            return had;
        }

        static boolean begins(String text) {
            return text.matches("([0-5](([0-5])(([?!~]|)[a-f]{0,5})?)?)?")
                && (text.length() < 2 || text.charAt(0) != text.charAt(1));
        }

        int fault() {
            int good = page.length();
            while (!begins(page.substring(0, good))) {
                good--;
            }
            return good;
        }

        int bridge() {
            if (!begins(page) || song(page).isEmpty()) {
                return STATE;
            }
            if (bridges.size() == 9) {
                return FULL;
            }
            bridges.add(page);
            page = "";
            return bridges.size() - 1;
        }

        int about(int b, int what) {
            if (noBridge(b)) {
                return UNKNOWN;
            }
            if (what < 0 || what > 9) {
                return OUTSIDE;
            }
            String bridge = bridges.get(b);
            String song = song(bridge);
            if (what > 4) {
                return what - 5 < song.length() ? song.charAt(what - 5) - 'a' : NONE;
            }
            return new int[] {kind(bridge), end(bridge, 0), end(bridge, 1), song.length(), length(bridge)}[what];
        }

        int as(int b, int kind) {
            if (noBridge(b)) {
                return UNKNOWN;
            }
            if (kind < 0 || kind > 3) {
                return OUTSIDE;
            }
            int its = kind(bridges.get(b));
            return kind == 0 || its == kind || its == 3 && kind == 1 ? b : NONE;
        }

        int change(int b, int i, int verse) {
            if (noBridge(b) || i < 0 || i >= song(bridges.get(b)).length() || notSix(verse)) {
                return UNKNOWN;
            }
            StringBuilder bridge = new StringBuilder(bridges.get(b));
            int at = bridge.length() - song(bridges.get(b)).length() + i;
            int was = bridge.charAt(at) - 'a';
            bridge.setCharAt(at, (char) ('a' + verse));
            bridges.set(b, bridge.toString());
            return was;
        }

        int alike(int b) {
            if (noBridge(b)) {
                return UNKNOWN;
            }
            for (int c = 0; c < bridges.size(); c++) {
                if (c != b && song(bridges.get(c)).equals(song(bridges.get(b)))) {
                    return c;
                }
            }
            return NONE;
        }

        int singer(int place, int verses, int breath, int memory, int purse) {
            if (notSix(place)) {
                return UNKNOWN;
            }
            if (verses < 0 || verses > 63 || breath < 0 || breath > 30 || memory < 1 || memory > 6
                || purse < 0 || purse > 99) {
                return OUTSIDE;
            }
            if (singers.size() == 5) {
                return FULL;
            }
            One one = new One();
            one.place = place;
            one.verses = set(verses);
            one.breath = breath;
            one.day = breath;
            one.memory = memory;
            one.purse = purse;
            singers.add(one);
            return singers.size() - 1;
        }

        int told(int s, int what) {
            if (noSinger(s)) {
                return UNKNOWN;
            }
            if (what < 0 || what > 6) {
                return OUTSIDE;
            }
            One one = singers.get(s);
            return new int[] {one.place, bits(one.verses), one.breath, one.day, one.memory, one.purse,
                one.forgets()}[what];
        }

        int fee(int place, int verse) {
            return fees[place][verse] == null ? NONE : fees[place][verse];
        }

        int teach(int place, int verse, int fee) {
            if (notSix(place) || notSix(verse)) {
                return UNKNOWN;
            }
            if (fee < -1 || fee > 99) {
                return OUTSIDE;
            }
            int was = fee(place, verse);
            fees[place][verse] = fee == -1 ? null : (Integer) fee;
            return was;
        }

        static boolean joins(String bridge, int place) {
            return bridge.substring(0, 2).contains("" + place);
        }

        static int across(String bridge, int place) {
            return end(bridge, 0) + end(bridge, 1) - place;
        }

        int may(int s, int b) {
            if (noSinger(s) || noBridge(b)) {
                return UNKNOWN;
            }
            One one = singers.get(s);
            String bridge = bridges.get(b);
            if (!sings(one.verses, bridge)) {
                return 0;
            }
            return joins(bridge, one.place) && one.breath >= length(bridge) ? 1 : 2;
        }

        int cross(int s, int b) {
            int may = may(s, b);
            if (may != 1) {
                return may == UNKNOWN ? UNKNOWN : STATE;
            }
            One one = singers.get(s);
            String bridge = bridges.get(b);
            one.place = across(bridge, one.place);
            one.breath -= length(bridge);
            one.use(song(bridge));
            return one.place;
        }

        int learn(int s, int verse) {
            if (noSinger(s) || notSix(verse)) {
                return UNKNOWN;
            }
            One one = singers.get(s);
            char v = (char) ('a' + verse);
            int fee = fee(one.place, verse);
            if (one.verses.contains(v) || fee == NONE || fee > one.purse) {
                return STATE;
            }
            one.purse -= fee;
            one.verses.add(v);
            one.use("" + v);
            fees[one.place][verse] = fee == 99 ? 99 : fee + 1;
            return one.purse;
        }

        int night() {
            int forgotten = 0;
            for (One one : singers) {
                one.breath = one.day;
                if (one.verses.size() > one.memory) {
                    one.verses.remove((char) ('a' + one.forgets()));
                    forgotten++;
                }
            }
            return forgotten;
        }

        /** Tries each way without a place twice; best holds breath and first bridge. */
        void walk(int at, int to, Set<Character> verses, int spent, int firstBridge, String been, int[] best) {
            if (at == to) {
                if (spent < best[0] || spent == best[0] && firstBridge < best[1]) {
                    best[0] = spent;
                    best[1] = firstBridge;
                }
                return;
            }
            for (int b = 0; b < bridges.size(); b++) {
                String bridge = bridges.get(b);
                if (joins(bridge, at) && sings(verses, bridge) && !been.contains("" + across(bridge, at))) {
                    walk(across(bridge, at), to, verses, spent + length(bridge), firstBridge == NONE ? b : firstBridge,
                        been + across(bridge, at), best);
                }
            }
        }

        int[] way(int from, int to, Set<Character> verses) {
            int[] best = {1000000, NONE};
            walk(from, to, verses, 0, NONE, "" + from, best);
            return best;
        }

        boolean joined(int from, int to, Set<Character> verses) {
            return way(from, to, verses)[0] < 1000000;
        }

        int home(int s, int place, int what) {
            if (noSinger(s) || notSix(place)) {
                return UNKNOWN;
            }
            if (notTwo(what)) {
                return OUTSIDE;
            }
            One one = singers.get(s);
            int[] best = way(one.place, place, one.verses);
            return best[0] > one.breath ? NONE : best[what];
        }

        int reachOf(One one, Set<Character> verses) {
            int places = 0;
            for (int place = 0; place < 6; place++) {
                places |= way(one.place, place, verses)[0] <= one.breath ? 1 << place : 0;
            }
            return places;
        }

        int reach(int s) {
            return noSinger(s) ? UNKNOWN : reachOf(singers.get(s), singers.get(s).verses);
        }

        int first(int s) {
            if (noSinger(s)) {
                return UNKNOWN;
            }
            One one = singers.get(s);
            int found = NONE;
            int most = Integer.bitCount(reach(s));
            for (int v = 0; v < 6; v++) {
                Set<Character> more = new HashSet<>(one.verses);
                boolean isNew = more.add((char) ('a' + v));
                if (isNew && fee(one.place, v) != NONE && fee(one.place, v) <= one.purse
                    && Integer.bitCount(reachOf(one, more)) > most) {
                    most = Integer.bitCount(reachOf(one, more));
                    found = v;
                }
            }
            return found;
        }

        /** Tries each order of lessons; best holds fees and verses, of like fees the least verses. */
        void lessons(int at, int to, int known, int learnt, int paid, boolean[] placesMemo, int[] best) {
            if (paid > best[0]) {
                return;
            }
            if (open(at, to, known, placesMemo) && (paid < best[0] || learnt < best[1])) {
                best[0] = paid;
                best[1] = learnt;
            }
            for (int v = 0; v < 6; v++) {
                for (int place = 0; place < 6 && (known >> v & 1) == 0; place++) {
                    if (fee(place, v) != NONE && open(at, place, known, placesMemo)) {
                        lessons(at, to, known | 1 << v, learnt | 1 << v, paid + fee(place, v), placesMemo, best);
                    }
                }
            }
        }

        boolean open(int from, int to, int known, boolean[] memo) {
            int key = known * 6 + to;
            if (!memo[key]) {
                memo[key] = true;
                memo[key + 384] = joined(from, to, set(known));
            }
            return memo[key + 384];
        }

        int cheapest(int s, int place, int what) {
            if (noSinger(s) || notSix(place)) {
                return UNKNOWN;
            }
            if (notTwo(what)) {
                return OUTSIDE;
            }
            One one = singers.get(s);
            int[] best = {one.purse, 1000};
            lessons(one.place, place, bits(one.verses), 0, 0, new boolean[768], best);
            return best[1] == 1000 ? NONE : best[what];
        }

        int choir(int a, int b, int what) {
            if (notSix(a) || notSix(b)) {
                return UNKNOWN;
            }
            if (notTwo(what)) {
                return OUTSIDE;
            }
            for (int size = 0; size <= singers.size(); size++) {
                for (int choir = 0; choir < 1 << singers.size(); choir++) {
                    Set<Character> verses = new HashSet<>();
                    for (int s = 0; s < singers.size(); s++) {
                        if ((choir >> s & 1) == 1) {
                            verses.addAll(singers.get(s).verses);
                        }
                    }
                    if (Integer.bitCount(choir) == size && joined(a, b, verses)) {
                        return what == 0 ? size : choir;
                    }
                }
            }
            return NONE;
        }

        int heard(int b) {
            if (noBridge(b)) {
                return UNKNOWN;
            }
            if (heard.size() == 10) {
                return FULL;
            }
            heard.add(b);
            return heard.size();
        }

        int hush() {
            int were = heard.size();
            heard.clear();
            return were;
        }

        int who() {
            boolean some = false;
            for (int start = 0; start < 6; start++) {
                int at = start;
                for (int b : heard) {
                    at = at >= 0 && joins(bridges.get(b), at) ? across(bridges.get(b), at) : -1;
                }
                some |= at >= 0 || heard.isEmpty();
            }
            int found = 0;
            for (int s = 0; s < singers.size() && some; s++) {
                int needed = 0;
                boolean all = true;
                for (int b : heard) {
                    needed += length(bridges.get(b));
                    all &= sings(singers.get(s).verses, bridges.get(b));
                }
                found |= all && needed <= singers.get(s).day ? 1 << s : 0;
            }
            return found;
        }

        int wander(int s, int turns, int seed, int what) {
            if (noSinger(s)) {
                return UNKNOWN;
            }
            if (turns < 1 || turns > 60 || seed < 0 || what < 0 || what > 3) {
                return OUTSIDE;
            }
            Model copy = copyOf(this);
            One one = copy.singers.get(s);
            BigInteger next = BigInteger.valueOf(seed);
            int crossed = 0;
            for (int turn = 0; turn < turns; turn++) {
                List<Integer> choices = new ArrayList<>();
                for (int b = 0; b < bridges.size(); b++) {
                    if (copy.may(s, b) == 1) {
                        choices.add(b);
                    }
                }
                if (!choices.isEmpty()) {
                    next = next.multiply(BigInteger.valueOf(1103515245)).add(BigInteger.valueOf(12345))
                        .mod(BigInteger.TWO.pow(31));
                    int draw = next.divide(BigInteger.valueOf(65536)).mod(BigInteger.valueOf(choices.size()))
                        .intValue();
                    copy.cross(s, choices.get(draw));
                    crossed++;
                }
            }
            return new int[] {one.place, one.breath, crossed, next.intValueExact()}[what];
        }

        int image() {
            kept = copyOf(this);
            return singers.size();
        }

        int restore() {
            if (kept == null) {
                return STATE;
            }
            Model from = copyOf(kept);
            bridges = from.bridges;
            singers = from.singers;
            fees = from.fees;
            heard = from.heard;
            return singers.size();
        }

        int count(int what) {
            int told = 0;
            for (Integer[] row : fees) {
                for (Integer fee : row) {
                    told += fee == null ? 0 : 1;
                }
            }
            int[] all = {bridges.size(), singers.size(), told, heard.size(), page.length()};
            return what < 0 || what > 4 ? OUTSIDE : all[what];
        }

        long digest() {
            List<Integer> all = new ArrayList<>();
            for (int b = 0; b < bridges.size(); b++) {
                for (int what = 0; what < 10; what++) {
                    all.add(about(b, what));
                }
                all.add(alike(b));
            }
            for (int s = 0; s < singers.size(); s++) {
                for (int what = 0; what < 7; what++) {
                    all.add(told(s, what));
                }
                all.addAll(List.of(reach(s), first(s), cheapest(s, 5, 0), cheapest(s, 5, 1)));
            }
            for (int i = 0; i < 36; i++) {
                all.add(fee(i / 6, i % 6));
            }
            all.addAll(heard);
            all.addAll(List.of(who(), choir(0, 5, 0), choir(0, 5, 1)));
            for (char letter : page.toCharArray()) {
                all.add((int) letter);
            }
            for (int what = 0; what < 5; what++) {
                all.add(count(what));
            }
            long h = 599;
            for (int number : all) {
                h = 31 * h + number;
            }
            return h;
        }
    }
}
