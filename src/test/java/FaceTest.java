import java.lang.reflect.Constructor;
import java.lang.reflect.Field;
import java.lang.reflect.Method;
import java.lang.reflect.Modifier;
import java.util.Arrays;
import java.util.Set;
import java.util.TreeSet;
import java.util.stream.Collectors;

/** The class has the face of the document, and no other member that can be seen. */
final class FaceTest {
    private static final String METHODS = """
            int setUp(int,int,int,int)
            int carry(int,int)
            int face(int,int)
            int crow(int,int)
            int scare(int)
            int fill(int,int)
            int seats(int,int)
            int wind(int,int)
            int set(int,int)
            int vote()
            int pass(int)
            int type(char)
            int clearText()
            int perform()
            int stopped(int)
            int undo()
            int keep()
            int restore()
            int scarecrow(int,int)
            double straw(int)
            double weight(int,int)
            int field(int,int)
            int reason(int)
            int decision(int)
            int swings()
            int withoutCrows()
            int turnsIn(int)
            int ifTicks(int,int)
            int count(int)
            """;

    private FaceTest() {
    }

    static void run(Report report) {
        constant(report, "UNKNOWN = -1", StrawHouse.UNKNOWN == -1);
        constant(report, "BAD_VALUE = -2", StrawHouse.BAD_VALUE == -2);
        constant(report, "FULL = -3", StrawHouse.FULL == -3);
        constant(report, "NOT_POSSIBLE = -4", StrawHouse.NOT_POSSIBLE == -4);
        constant(report, "NONE = -5", StrawHouse.NONE == -5);
        report.tell("face: no other constant can be seen", constants());
        report.tell("face: the methods", methods());
        report.tell("face: the class and its constructor", classItself());
        report.tell("Promise 1: A new object: \"Creates a house\": each is a house of its own", ownHouses());
        report.tell("face: the classes inside, the names of private methods", inside());
    }

    private static void constant(Report report, String sentence, boolean holds) {
        report.tell("Terms / ERRORS: \"`" + sentence + "`\": the constant", holds ? "" : "    another value\n");
    }

    private static String constants() {
        Set<String> got = new TreeSet<>();
        for (Field field : StrawHouse.class.getDeclaredFields()) {
            if (!Modifier.isPrivate(field.getModifiers())) {
                got.add(Modifier.toString(field.getModifiers()) + " " + field.getType() + " " + field.getName());
            }
        }
        String start = "public static final int ";
        Set<String> due = new TreeSet<>(Set.of(start + "UNKNOWN", start + "BAD_VALUE", start + "FULL",
                start + "NOT_POSSIBLE", start + "NONE"));
        return got.equals(due) ? "" : "    constants: " + got + "\n";
    }

    private static String methods() {
        Set<String> got = new TreeSet<>();
        for (Method method : StrawHouse.class.getDeclaredMethods()) {
            if (!Modifier.isPrivate(method.getModifiers()) && !method.isSynthetic()) {
                String types = Arrays.stream(method.getParameterTypes()).map(Class::getName)
                        .collect(Collectors.joining(","));
                String seen = Modifier.toString(method.getModifiers()).equals("public") ? "" : "not public: ";
                got.add(seen + method.getReturnType() + " " + method.getName() + "(" + types + ")");
            }
        }
        Set<String> due = new TreeSet<>(Arrays.asList(METHODS.strip().split("\n")));
        return got.equals(due) ? "" : "    methods: " + got + "\n    due: " + due + "\n";
    }

    private static String classItself() {
        Constructor<?>[] constructors = StrawHouse.class.getDeclaredConstructors();
        boolean one = constructors.length == 1 && Modifier.isPublic(constructors[0].getModifiers())
                && constructors[0].getParameterCount() == 0;
        boolean fine = Modifier.toString(StrawHouse.class.getModifiers()).equals("public final")
                && StrawHouse.class.getPackageName().isEmpty();
        return one && fine ? "" : "    the class is not as told\n";
    }

    private static String ownHouses() {
        Caller one = new Caller();
        Caller other = new Caller();
        String fresh = Told.by(new Caller()).toString();
        one.call("setUp", 5, 5, 9, 3);
        one.call("crow", 0, 1);
        one.call("seats", 5, 9);
        one.call("vote");
        one.call("keep");
        one.typeAnew(".9;c9:0");
        one.call("perform");
        boolean same = Told.by(other).toString().equals(fresh) && other.call("restore") == StrawHouse.NONE
                && other.call("undo") == StrawHouse.NONE && other.call("perform") == -100;
        return same ? "" : "    what one house does, another one tells\n";
    }

    private static String inside() {
        Set<String> names = Arrays.stream(METHODS.strip().split("\n"))
                .map(row -> row.substring(row.indexOf(' ') + 1, row.indexOf('('))).collect(Collectors.toSet());
        StringBuilder faults = new StringBuilder();
        for (Method method : StrawHouse.class.getDeclaredMethods()) {
            if (Modifier.isPrivate(method.getModifiers()) && names.contains(method.getName())) {
                faults.append("    private ").append(method).append('\n');
            }
        }
        for (Class<?> inner : StrawHouse.class.getDeclaredClasses()) {
            if (Modifier.isPublic(inner.getModifiers()) || Modifier.isProtected(inner.getModifiers())) {
                faults.append("    class ").append(inner.getName()).append('\n');
            }
        }
        return faults.toString();
    }
}
