import java.lang.reflect.Constructor;
import java.lang.reflect.Field;
import java.lang.reflect.Method;
import java.lang.reflect.Modifier;
import java.util.Set;
import java.util.TreeSet;

/** The public face: what the document names is there, and nothing else can be seen from outside. */
public final class FaceTest {
    private static final String[] FACE = {
        "int valley()", "int damp(int,int)", "int apple(int,int,int)", "int biter(int,int)", "int type(int)",
        "int clear()", "int read()", "int days(int)", "int bites(int,int)", "int dips(int,int)", "int undo()",
        "int of(int,int)", "int about(int,int)", "int hard(int,int)", "int takes(int,int)", "int stuck(int)",
        "int when(int,int)", "int few(int,int)", "int feast(int)", "int left(int,int,int,int,int)", "int on(int,int)",
        "int note(int,int,int,int,int)", "int mark(int,int,int,int)", "int forget(int)", "int is(int)", "int look(int)",
        "int kinds(int)", "int ask(int)", "int pair(int,int,int,int)", "int wasps(int)", "int augusts(int,int)",
        "long part(int)", "int image(int)", "int from(int)", "int status(int)", "int count(int)", "long digest()",
    };

    public static void main(String[] args) throws Exception {
        Class<?> face = ToffeeWords.class;
        Due.holds("the class is public and final",
                Modifier.isPublic(face.getModifiers()) && Modifier.isFinal(face.getModifiers()));
        methods(face);
        fields(face);
        Constructor<?>[] made = face.getDeclaredConstructors();
        Due.due("constructors", made.length, 1);
        Due.holds("the constructor is public and takes nothing",
                Modifier.isPublic(made[0].getModifiers()) && made[0].getParameterCount() == 0);
        inside(face);
        Due.end();
    }

    private static void methods(Class<?> face) {
        Set<String> due = new TreeSet<>(Set.of(FACE));
        Set<String> names = new TreeSet<>();
        for (String told : FACE) {
            names.add(told.substring(told.indexOf(' ') + 1, told.indexOf('(')));
        }
        Set<String> there = new TreeSet<>();
        for (Method m : face.getDeclaredMethods()) {
            if (Modifier.isPrivate(m.getModifiers())) {
                Due.holds("no private method has a public one's name: " + m.getName(), !names.contains(m.getName()));
            } else {
                there.add(signature(m));
                Due.holds(m.getName() + " is public, of the object and throws nothing", Modifier.isPublic(m.getModifiers())
                        && !Modifier.isStatic(m.getModifiers()) && m.getExceptionTypes().length == 0);
            }
        }
        Due.holds("methods are those of the document: " + there, there.equals(due));
        for (Class<?> c : face.getDeclaredClasses()) {
            for (Method m : c.getDeclaredMethods()) {
                Due.holds("no method inside has a public one's name: " + m.getName(), !names.contains(m.getName()));
            }
        }
    }

    private static String signature(Method m) {
        StringBuilder told = new StringBuilder(m.getReturnType().getName());
        told.append(' ').append(m.getName()).append('(');
        for (int i = 0; i < m.getParameterCount(); i++) {
            told.append(i == 0 ? "" : ",").append(m.getParameterTypes()[i].getName());
        }
        return told.append(')').toString();
    }

    private static void fields(Class<?> face) throws Exception {
        int seen = 0;
        for (Field f : face.getDeclaredFields()) {
            if (!Modifier.isPrivate(f.getModifiers())) {
                seen++;
            }
            if (Modifier.isStatic(f.getModifiers())) {
                Due.holds(f.getName() + " is final", Modifier.isFinal(f.getModifiers()));
            }
        }
        Due.due("constants to be seen", seen, 4);
        Due.due("NONE", constant(face, "NONE"), -1);
        Due.due("BAD", constant(face, "BAD"), -2);
        Due.due("NO", constant(face, "NO"), -3);
        Due.due("FULL", constant(face, "FULL"), -4);
    }

    private static int constant(Class<?> face, String name) throws Exception {
        Field f = face.getField(name);
        Due.holds(name + " is a public static final int", f.getType() == int.class
                && Modifier.isStatic(f.getModifiers()) && Modifier.isFinal(f.getModifiers()));
        return f.getInt(null);
    }

    private static void inside(Class<?> face) {
        Due.holds("at most twelve classes", face.getDeclaredClasses().length <= 11);
        for (Class<?> c : face.getDeclaredClasses()) {
            int how = c.getModifiers();
            Due.holds(c.getName() + " is static and not to be seen", Modifier.isStatic(how)
                    && !Modifier.isPublic(how) && !Modifier.isProtected(how));
            int own = 0;
            for (Field f : c.getDeclaredFields()) {
                boolean ofClass = Modifier.isStatic(f.getModifiers());
                own += ofClass ? 0 : 1;
                Due.holds(f.getName() + " is final, if it is static", !ofClass || Modifier.isFinal(f.getModifiers()));
            }
            Due.holds(c.getName() + " has at most twenty fields", own <= 20);
        }
    }
}
