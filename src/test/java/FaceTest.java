import java.lang.reflect.Constructor;
import java.lang.reflect.Field;
import java.lang.reflect.Method;
import java.lang.reflect.Modifier;
import java.util.Arrays;
import java.util.TreeSet;

/** The public face is the document's, nothing more, and what a run makes stays small. */
public final class FaceTest {
    private static final String[] FACE = {
        "int row(int,int,int)", "int set(int,int,long)", "int copy(int,int,int,int,int)", "long element(int,int)",
        "int holds(int)", "int show(int,int)", "int says(int,int)", "int place(int,int)", "int looker(int,int,int)",
        "int likes(int,int,boolean)", "int tell(int,int,int)", "int feed(int)", "int wipe()", "int window()",
        "int sortAt(int)", "int lookerOf(int,int)", "int left(int)", "int taken(int,int)", "int glad(int,int)",
        "int order(int,int)", "int away(int,int)", "int crowd(int,int)", "int setOut(int,int)", "int who(int,int)",
        "int kinds(int,int,int,int)", "int odds(int)", "int likely(int)", "int gladOdds(int)", "int meanLeft()",
        "int sorts(int,int)", "int rare(int)", "int first(int)", "int places()", "int gladOnes(int)", "int empty(int)",
        "int without(int)", "int exchanged(int,int)", "int bestPair()", "int oldest(int)", "int twice(int,int)",
        "int unlike(int)", "int next(int)", "int swapped()", "int judge(int,int)", "int evening(int)", "int swap()",
        "int christmases(int)", "int seed(int)", "int image()", "int back()", "int status(int)",
    };

    private static int wrong = 0;

    public static void main(String[] args) {
        Class<?> face = SeenInOrderOfAge.class;
        check("the class is public and final", Modifier.isPublic(face.getModifiers()) && Modifier.isFinal(face.getModifiers()));
        constructors(face);
        methods(face);
        fields(face);
        for (Class<?> inside : face.getDeclaredClasses()) {
            check(inside + " is private and static",
                Modifier.isPrivate(inside.getModifiers()) && Modifier.isStatic(inside.getModifiers()));
        }
        System.out.println(wrong == 0 ? "the face is as it should be" : wrong + " things are not as they should be");
        if (wrong != 0) {
            System.exit(1);
        }
    }

    private static void check(String what, boolean holds) {
        if (!holds) {
            wrong++;
            System.out.println("it does not hold that " + what);
        }
    }

    private static void constructors(Class<?> face) {
        Constructor<?>[] all = face.getDeclaredConstructors();
        check("there is one public constructor without arguments",
            all.length == 1 && Modifier.isPublic(all[0].getModifiers()) && all[0].getParameterCount() == 0);
    }

    private static void methods(Class<?> face) {
        TreeSet<String> want = new TreeSet<>(Arrays.asList(FACE));
        TreeSet<String> got = new TreeSet<>();
        TreeSet<String> names = new TreeSet<>();
        for (Method m : face.getDeclaredMethods()) {
            if (!Modifier.isPrivate(m.getModifiers())) {
                String types = Arrays.toString(Arrays.stream(m.getParameterTypes()).map(Class::getName).toArray());
                got.add(m.getReturnType() + " " + m.getName() + "(" + types.substring(1, types.length() - 1).replace(" ", "") + ")");
                names.add(m.getName());
                check(m + " is public and of an object", m.getModifiers() == Modifier.PUBLIC);
            }
        }
        check("the methods " + got + " are " + want, got.equals(want));
        for (Method m : face.getDeclaredMethods()) {
            check("no private method is named " + m.getName(), !Modifier.isPrivate(m.getModifiers()) || !names.contains(m.getName()));
        }
        for (Class<?> inside : face.getDeclaredClasses()) {
            for (Method m : inside.getDeclaredMethods()) {
                check("no method inside is named " + m.getName(), !names.contains(m.getName()));
                check(m + " has at most seven parameters", m.getParameterCount() <= 7);
            }
        }
    }

    private static void fields(Class<?> face) {
        int others = 0;
        for (Field f : face.getDeclaredFields()) {
            boolean isConstant = Modifier.isStatic(f.getModifiers()) && Modifier.isFinal(f.getModifiers());
            check(f + " is no static state", isConstant || !Modifier.isStatic(f.getModifiers()));
            check(f + " is private, or NONE", f.getName().equals("NONE") != Modifier.isPrivate(f.getModifiers()));
            others += isConstant ? 0 : 1;
        }
        check("there are at most twenty fields", others <= 20);
        check("NONE is -1", SeenInOrderOfAge.NONE == -1);
    }
}
