import java.lang.reflect.Constructor;
import java.lang.reflect.Field;
import java.lang.reflect.Method;
import java.lang.reflect.Modifier;
import java.util.Arrays;
import java.util.List;
import java.util.NoSuchElementException;
import java.util.Set;
import java.util.TreeSet;

/** The public face, and the rules of LANGUAGE.md on members that reflection can see. */
public final class FaceTest {
    private static final Check CHECK = new Check();
    private static final String FACE = "count/1 enter/2 entry/2 fault/1 feed/5 formats/1 look/2 order/3 pass/1"
            + " points/2 race/2 racer/1 split/4 standing/2 starters/2 tell/5 time/4";

    public static void main(String[] args) {
        Set<String> face = new TreeSet<>();
        Set<String> names = new TreeSet<>();
        for (Method method : SkiShots.class.getDeclaredMethods()) {
            if (Modifier.isPublic(method.getModifiers())) {
                face.add(method.getName() + "/" + method.getParameterCount());
                names.add(method.getName());
                CHECK.that(method + " answers an int", method.getReturnType() == int.class);
                CHECK.that(method + " is no static one", !Modifier.isStatic(method.getModifiers()));
                thrown(method);
            }
        }
        CHECK.that("the methods of the face: " + face, String.join(" ", face).equals(FACE));
        CHECK.that("final", Modifier.isFinal(SkiShots.class.getModifiers()));
        hiddenMethods(SkiShots.class, names, true);
        fields();
        inside(names);
        CHECK.end();
    }

    private static void thrown(Method method) {
        List<Class<?>> due = method.getName().equals("look")
                ? List.of(IndexOutOfBoundsException.class, NoSuchElementException.class) : List.of();
        CHECK.that(method + " says that it throws " + due, Arrays.asList(method.getExceptionTypes()).equals(due));
    }

    private static void hiddenMethods(Class<?> where, Set<String> names, boolean outer) {
        for (Method method : where.getDeclaredMethods()) {
            int modifiers = method.getModifiers();
            if (outer && !Modifier.isPublic(modifiers)) {
                CHECK.that(method + " is private", Modifier.isPrivate(modifiers));
            }
            if (!outer || !Modifier.isPublic(modifiers)) {
                CHECK.that(method + " bears no name of the face", !names.contains(method.getName()));
            }
            CHECK.that(method + " has seven parameters at most", method.getParameterCount() <= 7);
        }
    }

    private static void fields() {
        for (Field field : SkiShots.class.getDeclaredFields()) {
            int modifiers = field.getModifiers();
            boolean isNone = field.getName().equals("NONE");
            CHECK.that(field + " is private", isNone ? Modifier.isPublic(modifiers) : Modifier.isPrivate(modifiers));
            CHECK.that(field + " is final if static", !Modifier.isStatic(modifiers) || Modifier.isFinal(modifiers));
        }
        CHECK.due("NONE", SkiShots.NONE, -1);
        Constructor<?>[] makers = SkiShots.class.getDeclaredConstructors();
        CHECK.that("one constructor, a public one", makers.length == 1 && makers[0].getParameterCount() == 0
                && Modifier.isPublic(makers[0].getModifiers()));
    }

    private static void inside(Set<String> names) {
        Class<?>[] classes = SkiShots.class.getDeclaredClasses();
        CHECK.that("twelve classes at most: " + Arrays.toString(classes), classes.length < 12);
        for (Class<?> one : classes) {
            CHECK.that(one + " is static", Modifier.isStatic(one.getModifiers()));
            CHECK.that(one + " is private", Modifier.isPrivate(one.getModifiers()));
            CHECK.that(one + " has twenty fields at most", one.getDeclaredFields().length <= 20);
            hiddenMethods(one, names, false);
        }
    }
}
