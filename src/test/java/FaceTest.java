import java.lang.reflect.Constructor;
import java.lang.reflect.Field;
import java.lang.reflect.Method;
import java.lang.reflect.Modifier;
import java.util.Set;
import java.util.TreeSet;

/** The public face: the document's constants, constructor and methods, and nothing else that is not private. */
final class FaceTest {
    private static final String FACE = "int add(int,int);int addRange(int,int,int);int alike(int,int);int bestSalt(int);"
        + "int bits(int,int);int bucket(int,int);int carryOut();int count(int);int empty(int);int fault();int fold(int);"
        + "int join(int,int);int listed(int,int);int nextNew(int,int);int off(int);int ofSketch(int,int);int put(long);"
        + "int restore(int);int salt(int);int save(int);int thing(int,int,int);int together(int,int);int undo();"
        + "int wipe();long withRank(int,int)";

    public static void main(String[] args) {
        constants();
        methods();
        members();
        Due.end();
    }

    static void constants() {
        Due.is("NO_SUCH", JoinedSketches.NO_SUCH, -1);
        Due.is("BAD_VALUE", JoinedSketches.BAD_VALUE, -2);
        Due.is("BAD_TEXT", JoinedSketches.BAD_TEXT, -3);
        Due.is("TOO_MANY", JoinedSketches.TOO_MANY, -4);
        Due.is("NOT_POSSIBLE", JoinedSketches.NOT_POSSIBLE, -5);
        Due.is("NONE", JoinedSketches.NONE, -6);
    }

    static void methods() {
        Set<String> found = new TreeSet<>();
        Set<String> names = new TreeSet<>();
        for (Method method : JoinedSketches.class.getDeclaredMethods()) {
            if (!Modifier.isPrivate(method.getModifiers())) {
                Due.is(method + " is public and not static", method.getModifiers(), Modifier.PUBLIC);
                String text = method.toString().replace("public ", "").replace("JoinedSketches.", "");
                found.add(text);
                names.add(method.getName());
            }
        }
        Due.is("the methods", String.join(";", found), String.join(";", new TreeSet<>(Set.of(FACE.split(";")))));
        privateNames(JoinedSketches.class, names);
        for (Class<?> inside : JoinedSketches.class.getDeclaredClasses()) {
            privateNames(inside, names);
        }
    }

    static void privateNames(Class<?> of, Set<String> publicNames) {
        for (Method method : of.getDeclaredMethods()) {
            boolean isPublic = Modifier.isPublic(method.getModifiers());
            if (!isPublic && publicNames.contains(method.getName())) {
                Due.is(of + " has a method by a public one's name: " + method.getName(), 1, 0);
            }
        }
    }

    static void members() {
        Class<?> type = JoinedSketches.class;
        Due.is("modifiers of the class", type.getModifiers(), Modifier.PUBLIC | Modifier.FINAL);
        Constructor<?>[] constructors = type.getDeclaredConstructors();
        Due.is("constructors", constructors.length, 1);
        Due.is("modifiers of the constructor", constructors[0].getModifiers(), Modifier.PUBLIC);
        Due.is("its parameters", constructors[0].getParameterCount(), 0);
        Set<String> fields = new TreeSet<>();
        for (Field field : type.getDeclaredFields()) {
            if (!Modifier.isPrivate(field.getModifiers())) {
                fields.add(Modifier.toString(field.getModifiers()) + " " + field.getType() + " " + field.getName());
            }
        }
        String constant = "public static final int ";
        Due.is("fields that are not private", String.join(";", fields), constant + "BAD_TEXT;" + constant
            + "BAD_VALUE;" + constant + "NONE;" + constant + "NOT_POSSIBLE;" + constant + "NO_SUCH;" + constant
            + "TOO_MANY");
        for (Class<?> inside : type.getDeclaredClasses()) {
            Due.is(inside + " is static", Modifier.isStatic(inside.getModifiers()) ? 1 : 0, 1);
            Due.is(inside + " is not public", Modifier.isPublic(inside.getModifiers()) ? 1 : 0, 0);
        }
    }
}
