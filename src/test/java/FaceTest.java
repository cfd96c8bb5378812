import java.lang.reflect.Constructor;
import java.lang.reflect.Field;
import java.lang.reflect.Method;
import java.lang.reflect.Modifier;
import java.util.ArrayList;
import java.util.Arrays;
import java.util.List;
import java.util.TreeSet;

/** The class has exactly the document's face: its members, their types and their throws clauses. */
public final class FaceTest {
    private static final String OUTSIDE = "IndexOutOfBoundsException";
    private static final String ARGUMENT = "IllegalArgumentException";
    private static final String STATE = "IllegalStateException";
    private static final String[] METHODS = {
        "int elements(int) " + ARGUMENT,
        "boolean cover(int,int,boolean) " + OUTSIDE,
        "int edge(int,int,int) " + OUTSIDE + "," + ARGUMENT,
        "int colour(int,int,int) " + OUTSIDE,
        "int room(int,int,int) " + OUTSIDE + "," + ARGUMENT,
        "int weigh(int,int) " + OUTSIDE + "," + ARGUMENT,
        "int make(int) " + ARGUMENT + "," + STATE,
        "int sum(int,int) " + OUTSIDE + "," + STATE,
        "int contract(int,int) " + OUTSIDE + "," + ARGUMENT + "," + STATE,
        "int cap(int,int) " + OUTSIDE + "," + ARGUMENT + "," + STATE,
        "int value(int,int) " + OUTSIDE + "," + ARGUMENT,
        "boolean isLawful(int) " + OUTSIDE,
        "boolean rises(int) " + OUTSIDE,
        "int least(int) " + OUTSIDE + "," + STATE,
        "int leastSet(int,boolean) " + OUTSIDE + "," + STATE,
        "int leastSetAnew(int,boolean) " + OUTSIDE + "," + STATE,
        "int order(int) " + OUTSIDE + "," + STATE,
        "int corner(int,int) " + OUTSIDE + "," + STATE,
        "int greedy(int,int) " + OUTSIDE + "," + ARGUMENT,
        "int best(int,int) " + OUTSIDE + "," + ARGUMENT,
        "int common() ",
        "int commonAnew() ",
        "int share(int,int) " + OUTSIDE,
        "int shareAnew(int,int) " + OUTSIDE,
    };
    private static final String[] CONSTANTS = {
        "int NONE = -1", "int COVER = 0", "int CUT = 1", "int RANK_ONE = 2", "int RANK_TWO = 3", "int WEIGHTS = 4",
    };

    private static int wrong = 0;

    private static void due(String what, Object got, Object want) {
        if (!want.equals(got)) {
            wrong++;
            System.out.println(what + ": is " + got + ", due is " + want);
        }
    }

    private static String names(Class<?>[] types) {
        List<String> names = new ArrayList<>();
        for (Class<?> type : types) {
            names.add(type.getSimpleName());
        }
        return String.join(",", names);
    }

    private static TreeSet<String> methods() {
        TreeSet<String> found = new TreeSet<>();
        for (Method method : Submodulary.class.getDeclaredMethods()) {
            if (!Modifier.isPrivate(method.getModifiers()) && !method.isSynthetic()) {
                found.add(method.getReturnType().getSimpleName() + " " + method.getName() + "("
                    + names(method.getParameterTypes()) + ") " + names(method.getExceptionTypes()));
                due(method.getName() + " is public", Modifier.isPublic(method.getModifiers()), true);
                due(method.getName() + " is static", Modifier.isStatic(method.getModifiers()), false);
            }
        }
        return found;
    }

    private static TreeSet<String> constants() throws IllegalAccessException {
        TreeSet<String> found = new TreeSet<>();
        for (Field field : Submodulary.class.getDeclaredFields()) {
            if (!Modifier.isPrivate(field.getModifiers()) && !field.isSynthetic()) {
                found.add(field.getType().getSimpleName() + " " + field.getName() + " = " + field.getInt(null));
                due(field.getName() + " is final", Modifier.isFinal(field.getModifiers()), true);
            }
        }
        return found;
    }

    public static void main(String[] arguments) throws IllegalAccessException {
        due("the methods", methods(), new TreeSet<>(Arrays.asList(METHODS)));
        due("the constants", constants(), new TreeSet<>(Arrays.asList(CONSTANTS)));
        due("the class is public and final",
            Submodulary.class.getModifiers() & (Modifier.PUBLIC | Modifier.FINAL), Modifier.PUBLIC | Modifier.FINAL);
        Constructor<?>[] constructors = Submodulary.class.getDeclaredConstructors();
        due("the constructors", constructors.length, 1);
        due("the constructor is public", Modifier.isPublic(constructors[0].getModifiers()), true);
        due("the constructor's arguments", constructors[0].getParameterCount(), 0);
        System.out.println(wrong == 0 ? "the face is as due" : wrong + " things are not as due");
        if (wrong != 0) {
            System.exit(1);
        }
    }
}
