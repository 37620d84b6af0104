import java.lang.reflect.Field;
import java.lang.reflect.Method;
import java.lang.reflect.Modifier;
import java.util.ArrayList;
import java.util.Arrays;
import java.util.Collections;
import java.util.HashSet;
import java.util.List;
import java.util.Set;

/** The class has the document's face, and no more than that. */
public final class FaceTest {
    private static final Check CHECK = new Check("FaceTest");

    public static void main(String[] arguments) {
        constants();
        members();
        exceptions();
        names();
        CHECK.end();
    }

    private static void constants() {
        int[] got = {BracedPages.NONE, BracedPages.OPEN, BracedPages.BEHIND, BracedPages.WORD, BracedPages.RANGE,
            BracedPages.TABLE, BracedPages.DEEP, BracedPages.LONG, BracedPages.TAG, BracedPages.SAME};
        for (int i = 0; i < got.length; i++) {
            CHECK.same("constant " + i, got[i], -1 - i);
        }
    }

    private static void members() {
        List<String> visible = new ArrayList<>();
        for (Method method : BracedPages.class.getDeclaredMethods()) {
            if (!Modifier.isPrivate(method.getModifiers()) && !method.isSynthetic()) {
                visible.add(method.getReturnType() + " " + method.getName() + Arrays.toString(method.getParameterTypes())
                    + Modifier.toString(method.getModifiers()));
            }
        }
        Collections.sort(visible);
        CHECK.same("methods", String.join("; ", visible), "int add[int, int, int, int]public; int at[]public; "
            + "int begin[int, int]public; int feed[long]public; int letter[int, int]public; int out[int]public; "
            + "int paragraph[int, int]public; int paragraphs[]public; int readBraced[]public; int readTagged[]public; "
            + "int run[int, int, int]public; int take[]public; int writeBraced[]public; int writeTagged[]public; "
            + "void clear[]public; void wipe[]public");
        int fields = 0;
        for (Field field : BracedPages.class.getDeclaredFields()) {
            int modifiers = field.getModifiers();
            fields += Modifier.isPrivate(modifiers) ? 0 : 1;
            CHECK.same(field.getName() + " is no open state", Modifier.isPrivate(modifiers) || Modifier.isFinal(modifiers) ? 1 : 0, 1);
            CHECK.same(field.getName() + " is no shared state", Modifier.isStatic(modifiers) && !Modifier.isFinal(modifiers) ? 1 : 0, 0);
        }
        CHECK.same("constants", fields, 10);
        CHECK.same("constructors", BracedPages.class.getDeclaredConstructors().length, 1);
        CHECK.same("class", Modifier.toString(BracedPages.class.getModifiers()), "public final");
    }

    private static void exceptions() {
        List<String> told = new ArrayList<>();
        for (Method method : BracedPages.class.getDeclaredMethods()) {
            List<String> thrown = new ArrayList<>();
            for (Class<?> one : method.getExceptionTypes()) {
                thrown.add(one.getName());
            }
            if (!thrown.isEmpty()) {
                told.add(method.getName() + " " + String.join(" ", thrown));
            }
        }
        Collections.sort(told);
        String state = " java.lang.IllegalStateException", argument = " java.lang.IllegalArgumentException";
        String unsupported = " java.lang.UnsupportedOperationException", missing = " java.util.NoSuchElementException";
        CHECK.same("what is thrown", String.join("; ", told), "add" + state + argument + unsupported + "; begin" + argument
            + unsupported + "; feed" + argument + unsupported + "; letter" + missing + "; paragraph" + missing + argument
            + "; run" + missing + argument + "; take" + unsupported);
        CHECK.same("what the constructor throws", BracedPages.class.getDeclaredConstructors()[0].getExceptionTypes().length, 0);
    }

    private static void names() {
        Set<String> face = new HashSet<>();
        for (Method method : BracedPages.class.getMethods()) {
            face.add(method.getName());
        }
        List<Class<?>> classes = new ArrayList<>(List.of(BracedPages.class.getDeclaredClasses()));
        CHECK.same("few classes", classes.size() <= 11 ? 1 : 0, 1);
        classes.add(BracedPages.class);
        for (Class<?> one : classes) {
            for (Method method : one.getDeclaredMethods()) {
                boolean clashes = !Modifier.isPublic(method.getModifiers()) && face.contains(method.getName());
                CHECK.same(one.getName() + "." + method.getName() + " has a name of the face", clashes ? 1 : 0, 0);
            }
        }
    }
}
