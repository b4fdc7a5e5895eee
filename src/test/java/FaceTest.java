import java.lang.reflect.Constructor;
import java.lang.reflect.Field;
import java.lang.reflect.Method;
import java.lang.reflect.Modifier;
import java.util.Arrays;
import java.util.Set;
import java.util.TreeSet;
import java.util.stream.Collectors;

/** The public face is the document's and no more (LANGUAGE.md, rule 1); LanguageTest has the other rules. */
public final class FaceTest {
    private static final String[] FACE = {
        "int feed(int,int,int,int,int)", "boolean end(int)", "int fault()", "int laws()", "boolean liked(int,int)",
        "int screen(int,int,int,int)", "int on(int,int)", "int plan()", "int trial(int,int)", "int row(int,int)",
        "int baby(int,int,int)", "int gaze(int,int,int)", "boolean cried(int,int)", "boolean rule(int,int,int)",
        "boolean lean(int)", "boolean reading(int,int)", "int length(int,int)", "int read(int,int)",
        "int says(int,int,int,int)", "int out(int,int)", "boolean leave(int,boolean)", "int difference(int)",
        "int odds(int)", "int after(int)", "int leaving(int)", "int house(int,int)", "int joined(int)",
        "int span(int,int)", "boolean spread(int,int)", "int world(int,int)", "int worlds(int,int,int,int)",
        "int parts(int,int,int,int)", "int next(int,int,int)", "int fresh(int)", "int settled(int)",
        "int apart(int,int)", "int nearest(int)", "boolean book(int)", "int kept()", "boolean image(int)",
        "boolean restore(int)", "int status(int)", "int count(int)"};

    public static void main(String[] args) {
        methods();
        fields();
        Check.yes("the class is public and final",
            Modifier.isPublic(LookTimes.class.getModifiers()) && Modifier.isFinal(LookTimes.class.getModifiers()));
        Constructor<?>[] made = LookTimes.class.getDeclaredConstructors();
        Check.due("constructors", made.length, 1);
        Check.yes("the constructor is public", Modifier.isPublic(made[0].getModifiers()));
        Check.due("parameters of the constructor", made[0].getParameterCount(), 0);
        Set<String> names = Arrays.stream(FACE).map(m -> m.replaceAll(".* |\\(.*", "")).collect(Collectors.toSet());
        Class<?>[] inside = LookTimes.class.getDeclaredClasses();
        Check.yes("twelve classes at most", inside.length < 12);
        for (Class<?> one : inside) {
            inside(one, names);
        }
        Check.close("FaceTest");
    }

    private static void methods() {
        Set<String> found = new TreeSet<>();
        for (Method method : LookTimes.class.getDeclaredMethods()) {
            if (Modifier.isPublic(method.getModifiers())) {
                found.add(method.getReturnType() + " " + method.getName() + Arrays.stream(method.getParameterTypes())
                    .map(Class::toString).collect(Collectors.joining(",", "(", ")")));
                Check.no(method.getName() + " is static", Modifier.isStatic(method.getModifiers()));
            } else {
                Check.yes(method.getName() + " is private", Modifier.isPrivate(method.getModifiers()));
            }
        }
        Set<String> want = new TreeSet<>(Arrays.asList(FACE));
        Check.yes("face " + found + " is " + want, found.equals(want));
    }

    private static void fields() {
        int open = 0;
        for (Field field : LookTimes.class.getDeclaredFields()) {
            boolean constant = Modifier.isStatic(field.getModifiers());
            if (Modifier.isPublic(field.getModifiers())) {
                open++;
                Check.yes(field.getName() + " is an int", constant && field.getType() == int.class);
            } else {
                Check.yes(field.getName() + " is private", Modifier.isPrivate(field.getModifiers()));
            }
            Check.yes(field.getName() + " is final if static", !constant || Modifier.isFinal(field.getModifiers()));
        }
        Check.due("public constants", open, 2);
    }

    private static void inside(Class<?> one, Set<String> names) {
        Check.yes(one.getName() + " is static", Modifier.isStatic(one.getModifiers()));
        Check.yes(one.getName() + " is private", Modifier.isPrivate(one.getModifiers()));
        int fields = 0;
        for (Field field : one.getDeclaredFields()) {
            fields += Modifier.isStatic(field.getModifiers()) ? 0 : 1;
        }
        Check.yes(one.getName() + " has twenty fields at most", fields <= 20);
        for (Method method : one.getDeclaredMethods()) {
            Check.no(one.getName() + "." + method.getName() + " bears a public name", names.contains(method.getName()));
            Check.yes(one.getName() + "." + method.getName() + " takes at most seven", method.getParameterCount() <= 7);
        }
    }
}
