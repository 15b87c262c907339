import java.lang.reflect.Constructor;
import java.lang.reflect.Field;
import java.lang.reflect.Method;
import java.lang.reflect.Modifier;
import java.util.Arrays;
import java.util.Set;
import java.util.TreeSet;

/** The face is the document's, and nothing else of the class is to be seen. */
public final class FaceTest {
    private static final String[] METHODS = {
        "line(4)", "wipe(0)", "set(2)", "counter(1)", "count(1)", "at(0)", "go(1)", "rule(5)",
        "unrule(2)", "place(4)", "move(1)", "where(1)", "production(2)", "lay(0)", "add(1)",
        "clear(0)", "letter(1)", "length(0)", "tag(1)", "next(0)", "told(1)", "appendant(2)",
        "spread(0)", "cycle(1)", "bit(1)", "bits(1)", "gather(0)"
    };

    public static void main(String[] args) {
        Class<TagTower> face = TagTower.class;
        Due.is("public final", face.getModifiers(), Modifier.PUBLIC | Modifier.FINAL);
        Due.is("constructors", constructors(face), "public:0");
        Due.is("methods", methods(face), new TreeSet<>(Arrays.asList(METHODS)).toString());
        Due.is("constants", constants(face), "[BAD, FULL, NONE, STATE]");
        Due.is("BAD", TagTower.BAD, -1);
        Due.is("STATE", TagTower.STATE, -2);
        Due.is("FULL", TagTower.FULL, -3);
        Due.is("NONE", TagTower.NONE, -9);
        namesInside(face);
        Due.end();
    }

    private static String constructors(Class<?> face) {
        StringBuilder all = new StringBuilder();
        for (Constructor<?> one : face.getDeclaredConstructors()) {
            all.append(Modifier.toString(one.getModifiers())).append(":")
                .append(one.getParameterCount());
        }
        return all.toString();
    }

    private static String methods(Class<?> face) {
        Set<String> all = new TreeSet<>();
        for (Method one : face.getDeclaredMethods()) {
            boolean takesInts = Arrays.stream(one.getParameterTypes()).allMatch(t -> t == int.class);
            if (!Modifier.isPrivate(one.getModifiers())) {
                Due.is(one.getName() + " is public, of int, answers int",
                    one.getModifiers() == Modifier.PUBLIC && takesInts
                        && one.getReturnType() == int.class ? 1 : 0, 1);
                all.add(one.getName() + "(" + one.getParameterCount() + ")");
            }
        }
        return all.toString();
    }

    private static String constants(Class<?> face) {
        Set<String> all = new TreeSet<>();
        for (Field one : face.getDeclaredFields()) {
            if (!Modifier.isPrivate(one.getModifiers())) {
                all.add(one.getName());
            } else if (Modifier.isStatic(one.getModifiers())) {
                Due.is(one.getName() + " is final", Modifier.isFinal(one.getModifiers()) ? 1 : 0, 1);
            }
        }
        return all.toString();
    }

    /** No method of a class inside bears the name of one of the face. */
    private static void namesInside(Class<?> face) {
        Set<String> names = new TreeSet<>();
        for (String one : METHODS) {
            names.add(one.substring(0, one.indexOf('(')));
        }
        for (Class<?> inside : face.getDeclaredClasses()) {
            Due.is(inside.getName() + " is static",
                Modifier.isStatic(inside.getModifiers()) ? 1 : 0, 1);
            for (Method one : inside.getDeclaredMethods()) {
                Due.is(one.getName() + " is a name of the face", names.contains(one.getName()) ? 1 : 0, 0);
            }
        }
    }
}
