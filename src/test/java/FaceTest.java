import java.lang.reflect.Constructor;
import java.lang.reflect.Field;
import java.lang.reflect.Method;
import java.lang.reflect.Modifier;
import java.util.TreeSet;

/** The public face: every constant, constructor and method of the document, and no other. */
public final class FaceTest {
    private static final String[] METHODS = {
        "int setParts(int) IllegalArgumentException",
        "int setSize(int,int) IndexOutOfBoundsException,IllegalArgumentException",
        "int learn(int,int,boolean) IndexOutOfBoundsException,IllegalStateException",
        "int put(int,int) IndexOutOfBoundsException,IllegalStateException",
        "int take(int,int) IndexOutOfBoundsException,IllegalStateException",
        "int costume(int,int) IndexOutOfBoundsException,IllegalArgumentException,IllegalStateException",
        "int sizeOf(int) IndexOutOfBoundsException",
        "int cold(int,int,int) IndexOutOfBoundsException,IllegalArgumentException",
        "boolean isIll(int,int) IndexOutOfBoundsException,IllegalArgumentException",
        "boolean canPlay(int,int,int) IndexOutOfBoundsException,IllegalArgumentException",
        "int strain(int) IllegalArgumentException",
        "int strainByAll(int) IllegalArgumentException",
        "int work(int) IllegalArgumentException",
        "int actorFor(int,int) IndexOutOfBoundsException,IllegalArgumentException",
        "int chain(int,int) IndexOutOfBoundsException,IllegalArgumentException",
        "int show(int) IllegalArgumentException,IllegalStateException",
        "int sell(int,int,int,int) IndexOutOfBoundsException,IllegalArgumentException,IllegalStateException",
        "int play() IllegalStateException",
        "int day() ",
        "int stateOf(int) IndexOutOfBoundsException",
        "int played(int,int) IndexOutOfBoundsException",
        "int refund(int) IndexOutOfBoundsException",
        "int takings() ",
    };
    private static final String[] CONSTANTS = {
        "NONE", "AHEAD", "PLAYED", "CANCELLED", "NO_PROMISE", "STAR", "WHOLE", "STANDS",
    };

    public static void main(String[] args) {
        Due.is("modifiers of the class", CastDesk.class.getModifiers(), Modifier.PUBLIC | Modifier.FINAL);
        Due.is("NONE", CastDesk.NONE, -1);
        Due.is("AHEAD", CastDesk.AHEAD, 0);
        Due.is("PLAYED", CastDesk.PLAYED, 1);
        Due.is("CANCELLED", CastDesk.CANCELLED, 2);
        Due.is("NO_PROMISE", CastDesk.NO_PROMISE, 0);
        Due.is("STAR", CastDesk.STAR, 1);
        Due.is("WHOLE", CastDesk.WHOLE, 2);
        Due.is("STANDS", CastDesk.STANDS, 3);
        fields();
        methods();
        constructors();
        Due.end("FaceTest");
    }

    private static void fields() {
        TreeSet<String> seen = new TreeSet<>();
        for (Field field : CastDesk.class.getDeclaredFields()) {
            if (!Modifier.isPrivate(field.getModifiers()) && !field.isSynthetic()) {
                seen.add(field.getName());
                Due.is("modifiers of " + field.getName(), field.getModifiers(),
                        Modifier.PUBLIC | Modifier.STATIC | Modifier.FINAL);
            }
        }
        Due.same("the constants", seen.toString(), new TreeSet<>(java.util.List.of(CONSTANTS)).toString());
    }

    private static void methods() {
        TreeSet<String> seen = new TreeSet<>();
        TreeSet<String> publicNames = new TreeSet<>();
        TreeSet<String> privateNames = new TreeSet<>();
        for (Method method : CastDesk.class.getDeclaredMethods()) {
            if (method.isSynthetic()) {
                continue;
            }
            if (Modifier.isPrivate(method.getModifiers())) {
                privateNames.add(method.getName());
                continue;
            }
            Due.is("modifiers of " + method.getName(), method.getModifiers(), Modifier.PUBLIC);
            publicNames.add(method.getName());
            seen.add(method.getReturnType() + " " + method.getName() + "(" + names(method.getParameterTypes(), false)
                    + ") " + names(method.getExceptionTypes(), true));
        }
        Due.same("the methods", seen.toString(), new TreeSet<>(java.util.List.of(METHODS)).toString());
        privateNames.retainAll(publicNames);
        Due.same("private methods with public names", privateNames.toString(), "[]");
    }

    private static void constructors() {
        Constructor<?>[] all = CastDesk.class.getDeclaredConstructors();
        Due.is("constructors", all.length, 1);
        Due.is("modifiers of the constructor", all[0].getModifiers(), Modifier.PUBLIC);
        Due.is("parameters of the constructor", all[0].getParameterCount(), 0);
    }

    private static String names(Class<?>[] types, boolean simple) {
        StringBuilder text = new StringBuilder();
        for (Class<?> type : types) {
            text.append(text.length() == 0 ? "" : ",").append(simple ? type.getSimpleName() : type.getName());
        }
        return text.toString();
    }
}
