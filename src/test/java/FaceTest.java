import java.lang.reflect.Constructor;
import java.lang.reflect.Field;
import java.lang.reflect.Method;
import java.lang.reflect.Modifier;
import java.util.Arrays;
import java.util.Set;
import java.util.TreeSet;

/** The class has the document's face and no other member that is not private (LANGUAGE.md, 1 and 5). */
public final class FaceTest {
    private static final String[] METHODS = {
        "hang(int,int,int)", "weigh(int)", "ring(int)", "hum(int)", "tune(int,int)", "fit(int,int)",
        "alarm(int,int)", "raise(int)", "level()", "frame(int,boolean)", "size()", "lay(int,int)",
        "see(int)", "change(int)", "call(int,int)", "strike(int)", "chime(int)", "peal(int,int)",
        "mark(int,int,int)", "marked(int,int)", "away(int)", "about(int,int)", "reasons(int)"
    };

    private static int wrong = 0;

    private static void hold(String what, boolean holds) {
        if (!holds) {
            wrong++;
            System.out.println("does not hold: " + what);
        }
    }

    private static String signature(Method method) {
        StringBuilder text = new StringBuilder(method.getName()).append('(');
        for (Class<?> type : method.getParameterTypes()) {
            text.append(text.charAt(text.length() - 1) == '(' ? "" : ",").append(type.getName());
        }
        return text.append(')').toString();
    }

    private static void methods() {
        Set<String> face = new TreeSet<>();
        Set<String> names = new TreeSet<>();
        for (Method method : BellLoft.class.getDeclaredMethods()) {
            if (!Modifier.isPrivate(method.getModifiers())) {
                face.add(signature(method));
                names.add(method.getName());
                hold(method + " is public, of the object, and answers an int",
                    Modifier.isPublic(method.getModifiers()) && !Modifier.isStatic(method.getModifiers())
                        && method.getReturnType() == int.class);
                hold(method + " tells of no exceptions", method.getExceptionTypes().length == 0);
            }
        }
        hold("the methods are those of the document: " + face, face.equals(new TreeSet<>(Arrays.asList(METHODS))));
        for (Method method : BellLoft.class.getDeclaredMethods()) {
            hold(method + " bears no public method's name",
                !Modifier.isPrivate(method.getModifiers()) || !names.contains(method.getName()));
        }
    }

    private static void fields() throws IllegalAccessException {
        for (Field field : BellLoft.class.getDeclaredFields()) {
            int modifiers = field.getModifiers();
            hold(field + " is private", Modifier.isPrivate(modifiers) || field.getName().equals("OUTSIDE"));
            hold(field + " is final if it is static", !Modifier.isStatic(modifiers) || Modifier.isFinal(modifiers));
            if (field.getName().equals("OUTSIDE")) {
                hold("OUTSIDE is public static final int -1",
                    modifiers == (Modifier.PUBLIC | Modifier.STATIC | Modifier.FINAL)
                        && field.getType() == int.class && field.getInt(null) == -1);
            }
        }
    }

    private static void constructors() {
        Constructor<?>[] all = BellLoft.class.getDeclaredConstructors();
        hold("one public constructor without parameters",
            all.length == 1 && Modifier.isPublic(all[0].getModifiers()) && all[0].getParameterCount() == 0);
        hold("the constructor tells of no exceptions", all[0].getExceptionTypes().length == 0);
    }

    private static void classes() {
        hold("the class is public and final",
            Modifier.isPublic(BellLoft.class.getModifiers()) && Modifier.isFinal(BellLoft.class.getModifiers()));
        hold("the class extends and implements nothing",
            BellLoft.class.getSuperclass() == Object.class && BellLoft.class.getInterfaces().length == 0);
        for (Class<?> inside : BellLoft.class.getDeclaredClasses()) {
            int modifiers = inside.getModifiers();
            hold(inside + " is static and not public or protected",
                Modifier.isStatic(modifiers) && !Modifier.isPublic(modifiers) && !Modifier.isProtected(modifiers));
        }
    }

    public static void main(String[] args) throws IllegalAccessException {
        classes();
        constructors();
        fields();
        methods();
        System.out.println(wrong == 0 ? "the face is as due" : wrong + " things are not as due");
        if (wrong != 0) {
            System.exit(1);
        }
    }
}
