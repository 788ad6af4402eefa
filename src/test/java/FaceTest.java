import java.lang.reflect.Constructor;
import java.lang.reflect.Field;
import java.lang.reflect.Method;
import java.lang.reflect.Modifier;
import java.util.TreeSet;

/** The public face: the members of the document, and no other one that is not private. */
public final class FaceTest {
    private static final String INDEX = " throws IndexOutOfBoundsException";
    private static final String ARGUMENT = " throws IllegalArgumentException";
    private static final String BOTH = " throws IndexOutOfBoundsException,IllegalArgumentException";

    private static final String[] METHODS = {
        "int append(long)", "int load()", "int loadError()", "int loadStatement()", "int size(int)" + ARGUMENT,
        "int cell(int,int)" + BOTH, "int harbour(int,int)" + BOTH, "int letter(int,int)" + INDEX,
        "int river(int,int)" + INDEX, "int voyage(int)", "int why(int,int)" + BOTH, "int ways(int)" + INDEX,
        "int room(int,int)" + BOTH, "int crossings()", "int crossed(int)" + INDEX, "int free()",
        "int upright(int)" + ARGUMENT, "int turning()", "int turningFrom(int)" + ARGUMENT, "int bestTurn()",
        "int hardest()", "int least()", "int placedThen()", "int arranged(int)" + INDEX,
        "int leastIf(int,boolean)" + INDEX, "int placedIf(int,boolean)" + INDEX, "int shy()",
        "int wayLength(int)" + INDEX, "int wayCell(int,int)" + INDEX, "int washes(int)" + INDEX, "int mildest()",
        "int drowns(int)" + INDEX, "int place(int,int)" + BOTH, "int lift(int)" + INDEX, "int arrange()",
        "boolean setRed(int,boolean)" + INDEX, "int addRiver(int)" + INDEX, "int dropRiver(int)" + INDEX,
        "int erode(int)" + INDEX, "int raise(int)" + INDEX, "int sail(int)" + INDEX, "int cut(int)" + INDEX,
        "int turnPage(int)" + ARGUMENT, "int read()", "double meanTurn()", "float cover()",
        "int writeRow(int)" + INDEX, "int outputByte(int)", "int undo()", "int saveSnapshot(int)" + ARGUMENT,
        "int restoreSnapshot(int)" + ARGUMENT,
    };

    public static void main(String[] args) {
        TreeSet<String> due = new TreeSet<>();
        for (String method : METHODS) {
            due.add(method);
        }
        TreeSet<String> names = new TreeSet<>();
        TreeSet<String> hidden = new TreeSet<>();
        TreeSet<String> got = new TreeSet<>();
        for (Method method : PortolanChart.class.getDeclaredMethods()) {
            if (Modifier.isPrivate(method.getModifiers()) || method.isSynthetic()) {
                hidden.add(method.getName());
            } else {
                got.add(told(method));
                names.add(method.getName());
            }
        }
        Check.same("the methods", due.toString(), got.toString());
        hidden.retainAll(names);
        Check.same("private methods with the name of a public one", "[]", hidden.toString());
        TreeSet<String> fields = new TreeSet<>();
        for (Field field : PortolanChart.class.getDeclaredFields()) {
            if (!Modifier.isPrivate(field.getModifiers())) {
                fields.add(Modifier.toString(field.getModifiers()) + " " + field.getType() + " " + field.getName());
            }
        }
        Check.same("the constants", "[public static final int FULL, public static final int NONE, "
            + "public static final int WRONG]", fields.toString());
        Constructor<?>[] constructors = PortolanChart.class.getDeclaredConstructors();
        Check.same("constructors", 1, constructors.length);
        Check.same("the constructor", "public PortolanChart()", constructors[0].toString());
        Check.same("the class", Modifier.PUBLIC | Modifier.FINAL, PortolanChart.class.getModifiers());
        Check.same("NONE", -1, PortolanChart.NONE);
        Check.same("FULL", -2, PortolanChart.FULL);
        Check.same("WRONG", -3, PortolanChart.WRONG);
        inside(names);
        Check.end();
    }

    /** What ../shared/LANGUAGE.md says of the classes inside, their fields and their methods. */
    private static void inside(TreeSet<String> names) {
        Class<?>[] classes = PortolanChart.class.getDeclaredClasses();
        Check.same("some twelve classes", true, classes.length < 12);
        for (Class<?> one : classes) {
            Check.same(one + " is static", true, Modifier.isStatic(one.getModifiers()));
            Check.same(one + " is not to be seen", false, Modifier.isPublic(one.getModifiers()));
            looks(one);
            for (Method method : one.getDeclaredMethods()) {
                Check.same(method + " has a name of the face", false, names.contains(method.getName()));
            }
        }
        looks(PortolanChart.class);
    }

    private static void looks(Class<?> one) {
        int fields = 0;
        for (Field field : one.getDeclaredFields()) {
            boolean isStatic = Modifier.isStatic(field.getModifiers());
            Check.same(field + " is final if it is static", true, !isStatic || Modifier.isFinal(field.getModifiers()));
            fields += isStatic ? 0 : 1;
        }
        Check.same("fields of " + one, true, fields <= 20);
        for (Method method : one.getDeclaredMethods()) {
            Check.same(method + " takes at most seven", true, method.getParameterTypes().length <= 7);
            Check.same(method + " is not protected", false, Modifier.isProtected(method.getModifiers()));
        }
    }

    private static String told(Method method) {
        StringBuilder text = new StringBuilder(method.getReturnType() + " " + method.getName() + "(");
        for (int i = 0; i < method.getParameterTypes().length; i++) {
            text.append(i == 0 ? "" : ",").append(method.getParameterTypes()[i]);
        }
        text.append(")");
        for (int i = 0; i < method.getExceptionTypes().length; i++) {
            text.append(i == 0 ? " throws " : ",").append(method.getExceptionTypes()[i].getSimpleName());
        }
        return text.toString();
    }
}
