import java.lang.reflect.Constructor;
import java.lang.reflect.Field;
import java.lang.reflect.Method;
import java.lang.reflect.Modifier;
import java.util.ArrayList;
import java.util.Arrays;
import java.util.List;
import java.util.TreeSet;

/** The public face of the class is the document's, no more and no less (LANGUAGE.md, rule 1). */
public final class FaceTest {
    private static final String[] FACE = {
        "int clear()",
        "int count(int)",
        "int cross(int,int,int,int,boolean)",
        "int dial(int,int,int)",
        "int drop(int)",
        "int dropTrain()",
        "int gear(int,int)",
        "int left(int,int,int,int,int)",
        "int ofLong(int,int,int,long)",
        "int put(int,int,int,int,int)",
        "int square(int,int,int)",
        "int strike(int)",
        "int table(int,int,int)",
        "int through(int,int)",
        "int train(boolean,int)",
        "int turn(int,int,int)",
        "int wheel(int,int,int)",
        "long hand(int,int)",
        "long number(int,int,int)",
        "long often(int,int,int,int)",
        "long whole(int,int,int,int)",
    };

    private static int wrong = 0;

    private static void due(String what, Object got, Object want) {
        if (!got.equals(want)) {
            wrong++;
            System.out.println(what + " is " + got + ", due is " + want);
        }
    }

    private static String line(Method m) {
        StringBuilder text = new StringBuilder(m.getReturnType().getName() + " " + m.getName() + "(");
        for (int k = 0; k < m.getParameterCount(); k++) {
            text.append(k == 0 ? "" : ",").append(m.getParameterTypes()[k].getName());
        }
        return text.append(")").toString();
    }

    public static void main(String[] args) throws Exception {
        Class<?> c = TideDials.class;
        due("the class's modifiers", c.getModifiers(), Modifier.PUBLIC | Modifier.FINAL);
        TreeSet<String> open = new TreeSet<>();
        TreeSet<String> openNames = new TreeSet<>();
        List<String> hidden = new ArrayList<>();
        for (Method m : c.getDeclaredMethods()) {
            if (Modifier.isPrivate(m.getModifiers())) {
                hidden.add(m.getName());
                continue;
            }
            due(m.getName() + " public", Modifier.isPublic(m.getModifiers()), true);
            due(m.getName() + " static", Modifier.isStatic(m.getModifiers()), false);
            open.add(line(m));
            openNames.add(m.getName());
        }
        due("the face", open, new TreeSet<>(Arrays.asList(FACE)));
        for (Class<?> inside : c.getDeclaredClasses()) {
            due(inside + " public", Modifier.isPublic(inside.getModifiers()), false);
            for (Method m : inside.getDeclaredMethods()) {
                hidden.add(m.getName());
            }
        }
        for (String name : hidden) {
            due("hidden " + name + " named as a public one", openNames.contains(name), false);
        }
        Constructor<?>[] made = c.getDeclaredConstructors();
        due("constructors", made.length, 1);
        due("the constructor's parameters", made[0].getParameterCount(), 0);
        due("the constructor public", Modifier.isPublic(made[0].getModifiers()), true);
        TreeSet<String> constants = new TreeSet<>();
        for (Field f : c.getDeclaredFields()) {
            if (!Modifier.isPrivate(f.getModifiers())) {
                due(f.getName(), f.getModifiers(), Modifier.PUBLIC | Modifier.STATIC | Modifier.FINAL);
                due(f.getName() + "'s type", f.getType(), int.class);
                constants.add(f.getName() + "=" + f.getInt(null));
            }
        }
        due("the constants", constants, new TreeSet<>(Arrays.asList("UNKNOWN=-1", "OUTSIDE=-2", "FULL=-4")));
        Class<?>[] thrown = c.getMethod("number", int.class, int.class, int.class).getExceptionTypes();
        due("number's throws clause", Arrays.asList(thrown), Arrays.asList(ClassCastException.class,
            NullPointerException.class, ArrayIndexOutOfBoundsException.class));
        System.out.println(wrong == 0 ? "the face is as due" : wrong + " are not as due");
        if (wrong != 0) {
            System.exit(1);
        }
    }
}
