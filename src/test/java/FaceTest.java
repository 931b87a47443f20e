import java.lang.management.ManagementFactory;
import java.lang.reflect.Constructor;
import java.lang.reflect.Field;
import java.lang.reflect.Method;
import java.lang.reflect.Modifier;
import java.util.Arrays;
import java.util.Set;
import java.util.TreeSet;

/** The public face is that of the document and no more, and no call makes an object. */
public final class FaceTest {
    private static final String[] METHODS = {
        "int letters(long)", "int blank()", "int fault()", "int bridge()", "int about(int, int)", "int as(int, int)",
        "int change(int, int, int)", "int alike(int)", "int singer(int, int, int, int, int)", "int told(int, int)",
        "int teach(int, int, int)", "int may(int, int)", "int cross(int, int)", "int learn(int, int)", "int night()",
        "int home(int, int, int)", "int reach(int)", "int first(int)", "int cheapest(int, int, int)",
        "int choir(int, int, int)", "int heard(int)", "int hush()", "int who()", "int wander(int, int, int, int)",
        "int image()", "int restore()", "int count(int)", "long digest()"};
    private static final String[] CONSTANTS = {"NONE", "UNKNOWN", "OUTSIDE", "STATE", "FULL"};

    private static int wrong = 0;

    public static void main(String[] args) {
        due("the class is public and final", Modifier.PUBLIC | Modifier.FINAL, SongToBridge.class.getModifiers());
        methodsAreThose();
        constantsAreThose();
        constructorIsThat();
        classesInsideAreHidden();
        callsMakeNoObject();
        System.out.println(wrong == 0 ? "the face is as told" : wrong + " faults of the face");
        if (wrong != 0) {
            System.exit(1);
        }
    }

    private static void due(String what, Object want, Object got) {
        if (!want.equals(got)) {
            wrong++;
            System.out.println(what + ": found " + got + ", due is " + want);
        }
    }

    private static String heading(Method method) {
        String types = Arrays.toString(Arrays.stream(method.getParameterTypes()).map(Class::getName).toArray());
        return method.getReturnType().getName() + " " + method.getName() + "("
            + types.substring(1, types.length() - 1) + ")";
    }

    private static void methodsAreThose() {
        Set<String> open = new TreeSet<>();
        Set<String> names = new TreeSet<>();
        for (Method method : SongToBridge.class.getDeclaredMethods()) {
            if (!Modifier.isPrivate(method.getModifiers())) {
                open.add(heading(method));
                names.add(method.getName());
                due(heading(method) + " is public", Modifier.PUBLIC, method.getModifiers());
            }
        }
        due("the methods", new TreeSet<>(Arrays.asList(METHODS)), open);
        for (Method method : SongToBridge.class.getDeclaredMethods()) {
            boolean isHidden = Modifier.isPrivate(method.getModifiers());
            due(heading(method) + " is hidden and bears the name of a public one", false,
                isHidden && names.contains(method.getName()));
        }
    }

    private static void constantsAreThose() {
        Set<String> open = new TreeSet<>();
        for (Field field : SongToBridge.class.getDeclaredFields()) {
            if (!Modifier.isPrivate(field.getModifiers())) {
                open.add(field.getName());
                due(field.getName(), Modifier.PUBLIC | Modifier.STATIC | Modifier.FINAL, field.getModifiers());
            }
        }
        due("the constants", new TreeSet<>(Arrays.asList(CONSTANTS)), open);
    }

    private static void constructorIsThat() {
        Constructor<?>[] all = SongToBridge.class.getDeclaredConstructors();
        due("constructors", 1, all.length);
        due("its parameters", 0, all[0].getParameterCount());
        due("it is public", Modifier.PUBLIC, all[0].getModifiers());
    }

    private static void classesInsideAreHidden() {
        for (Class<?> inside : SongToBridge.class.getDeclaredClasses()) {
            due(inside + " is static", true, Modifier.isStatic(inside.getModifiers()));
            due(inside + " is private", true, Modifier.isPrivate(inside.getModifiers()));
        }
    }

    /** All calls of a run share one room, so what a call makes would add up. */
    private static void callsMakeNoObject() {
        com.sun.management.ThreadMXBean threads =
            (com.sun.management.ThreadMXBean) ManagementFactory.getThreadMXBean();
        long thread = Thread.currentThread().getId();
        SongToBridge x = new SongToBridge();
        askAll(x);
        threads.getThreadAllocatedBytes(thread);
        long before = threads.getThreadAllocatedBytes(thread);
        for (int i = 0; i < 1000; i++) {
            askAll(x);
        }
        long made = threads.getThreadAllocatedBytes(thread) - before;
        due("1000 rounds of all calls make few bytes (" + made + ")", true, made < 10000);
    }

    private static void askAll(SongToBridge x) {
        x.image();
        x.letters(0x62613130L);
        x.fault();
        x.bridge();
        x.letters(0x63623f3531L);
        x.bridge();
        x.singer(0, 1, 30, 1, 30);
        x.teach(0, 1, 5);
        x.first(0);
        x.cheapest(0, 5, 0);
        x.learn(0, 1);
        x.may(0, 0);
        x.cross(0, 0);
        x.home(0, 5, 1);
        x.reach(0);
        x.choir(0, 5, 1);
        x.heard(0);
        x.heard(1);
        x.who();
        x.wander(0, 60, 7, 3);
        x.told(0, 6);
        x.about(0, 4);
        x.as(1, 1);
        x.change(1, 0, 2);
        x.alike(0);
        x.count(2);
        x.digest();
        x.night();
        x.hush();
        x.blank();
        x.restore();
    }
}
