import java.lang.reflect.Constructor;
import java.lang.reflect.Field;
import java.lang.reflect.Method;
import java.lang.reflect.Modifier;
import java.util.Set;
import java.util.TreeSet;

/** The face of the class: the document's members with their types and exceptions, and no other. */
public final class FaceTest {
    private static final String[] FACE = {
        "int addNote(int,int) IllegalArgumentException,IllegalStateException",
        "int repeatNotes() UnsupportedOperationException,IllegalStateException",
        "int clearNotes() ",
        "int addTune(char,char) IllegalArgumentException,UnsupportedOperationException,IllegalStateException",
        "char strokeAt(int,int) IndexOutOfBoundsException,IllegalArgumentException",
        "int noteAt(int,int) IndexOutOfBoundsException,IllegalArgumentException",
        "int goalAt(int,int) IndexOutOfBoundsException,IllegalArgumentException",
        "int phrases(int) IndexOutOfBoundsException",
        "int learn(char,int,int,int) IllegalArgumentException,IllegalStateException",
        "int density(int,int) IllegalArgumentException",
        "int lineAt(int,int,int,int,int) IndexOutOfBoundsException,IllegalArgumentException,NoSuchElementException",
        "int addPlayer(int,int,int) IllegalArgumentException,IllegalStateException",
        "boolean setAbsent(int,boolean) IndexOutOfBoundsException",
        "int seatOf(int) IndexOutOfBoundsException",
        "int playerAt(int) IllegalArgumentException,NoSuchElementException",
        "int begin(int) IndexOutOfBoundsException,IllegalStateException",
        "int play(int) IllegalArgumentException,IllegalStateException",
        "int beat() IllegalStateException",
        "int tune() IllegalStateException",
        "int levelOf(int) IndexOutOfBoundsException,IllegalStateException",
        "int cueLevel(int,int) IllegalArgumentException,IllegalStateException",
        "int cueTune(int,int) IndexOutOfBoundsException,IllegalArgumentException,IllegalStateException",
        "int cueEnd(int) IllegalArgumentException,IllegalStateException",
        "int setTempo(int) IllegalArgumentException",
        "int bend(int) IllegalArgumentException",
        "long elapsed() ",
        "int gongs() ",
        "int meetings() ",
        "int gongsWithin(int,int) IndexOutOfBoundsException,IllegalArgumentException",
        "int addSet(char,int) IllegalArgumentException,IllegalStateException",
        "int setGap(int,int,int) IndexOutOfBoundsException,IllegalArgumentException",
        "int pitch(int,int,int) IndexOutOfBoundsException,IllegalArgumentException",
        "int shared(int,int) IndexOutOfBoundsException",
        "boolean canGoOn(int,int) IndexOutOfBoundsException",
        "int suiteAt(int) NoSuchElementException",
        "int addPair(int,int) IllegalArgumentException,IllegalStateException",
        "int beating(int) IndexOutOfBoundsException",
        "int file(int,boolean,int) IndexOutOfBoundsException,IllegalArgumentException,UnsupportedOperationException",
        "int replace(int,boolean,int) IndexOutOfBoundsException,IllegalArgumentException,UnsupportedOperationException",
        "int drift(int) IllegalArgumentException",
        "boolean areEven(int,int) IllegalArgumentException",
        "int addMode(int,int,int) IllegalArgumentException,IllegalStateException",
        "boolean isProper(int,int,int) IndexOutOfBoundsException,IllegalArgumentException",
        "int vary(int,int,int,int,int) "
                + "IndexOutOfBoundsException,IllegalArgumentException,UnsupportedOperationException",
        "int villageNote(int,int,int) IndexOutOfBoundsException,IllegalArgumentException",
        "boolean areWrittenAlike(int,int) IndexOutOfBoundsException",
        "long checksum() ",
        "float metShare() ArithmeticException",
        "double meanBeating() ArithmeticException",
        "boolean isSound() ",
    };

    public static void main(String[] args) {
        Set<String> want = new TreeSet<>(Set.of(FACE));
        Set<String> got = new TreeSet<>();
        Set<String> names = new TreeSet<>();
        for (Method method : GongCircle.class.getDeclaredMethods()) {
            if (Modifier.isPublic(method.getModifiers())) {
                got.add(told(method));
                names.add(method.getName());
            }
        }
        Due.is("the public methods", want.toString(), () -> got.toString());
        Due.is("public and final", true, () -> isPublicAndFinal());
        Constructor<?>[] made = GongCircle.class.getDeclaredConstructors();
        Due.is("one constructor", 1, () -> made.length);
        Due.is("without parameters, public", true,
                () -> made[0].getParameterCount() == 0 && Modifier.isPublic(made[0].getModifiers()));
        for (Method method : GongCircle.class.getDeclaredMethods()) {
            if (!Modifier.isPublic(method.getModifiers()) && !method.isSynthetic()) {
                Due.is("private: " + method, true, () -> Modifier.isPrivate(method.getModifiers()));
                Due.is("a name of its own: " + method, false, () -> names.contains(method.getName()));
            }
        }
        for (Field field : GongCircle.class.getDeclaredFields()) {
            Due.is("private: " + field, true, () -> Modifier.isPrivate(field.getModifiers()));
            Due.is("no static field that changes: " + field, true,
                    () -> !Modifier.isStatic(field.getModifiers()) || Modifier.isFinal(field.getModifiers()));
        }
        inside(names);
        Due.end();
    }

    private static void inside(Set<String> names) {
        for (Class<?> inner : GongCircle.class.getDeclaredClasses()) {
            Due.is("static: " + inner, true, () -> Modifier.isStatic(inner.getModifiers()));
            Due.is("not public: " + inner, false, () -> Modifier.isPublic(inner.getModifiers()));
            for (Method method : inner.getDeclaredMethods()) {
                Due.is("a name of its own: " + method, false, () -> names.contains(method.getName()));
            }
        }
    }

    private static boolean isPublicAndFinal() {
        int modifiers = GongCircle.class.getModifiers();
        return Modifier.isPublic(modifiers) && Modifier.isFinal(modifiers);
    }

    private static String told(Method method) {
        StringBuilder told = new StringBuilder(method.getReturnType().getName());
        told.append(' ').append(method.getName()).append('(');
        for (int i = 0; i < method.getParameterCount(); i++) {
            told.append(i == 0 ? "" : ",").append(method.getParameterTypes()[i].getName());
        }
        told.append(") ");
        for (int i = 0; i < method.getExceptionTypes().length; i++) {
            told.append(i == 0 ? "" : ",").append(method.getExceptionTypes()[i].getSimpleName());
        }
        return told.toString();
    }
}
