import java.lang.reflect.Constructor;
import java.lang.reflect.Field;
import java.lang.reflect.Method;
import java.lang.reflect.Modifier;
import java.util.Arrays;
import java.util.NoSuchElementException;
import java.util.TreeSet;

/** The face of the document and no other member that can be seen (LANGUAGE.md, rule 1). */
public final class FaceTest {
    private static final String[] FACE = {
        "back()int", "blame(int)int", "brought(int)int", "chosen()int", "count(int)int", "cut()int",
        "fits(int)int", "fix(int,int,int)int", "giveUp()boolean", "leave(int,int,int)int",
        "need(int,int,int,int,int)int", "offer(int,int,int)boolean", "oneWay(int,int,boolean)boolean",
        "order(int)int", "part(int)int", "red(int)int", "runs(int)int", "send()int", "test(int)int",
        "told(int,int)int", "was(int,int,boolean)int", "why(int)int", "withdraw(int)boolean", "worth()int",
    };

    public static void main(String[] args) throws Exception {
        Due due = new Due();
        due.is("public final", TrainDesk.class.getModifiers(), Modifier.PUBLIC | Modifier.FINAL);
        TreeSet<String> found = new TreeSet<>();
        TreeSet<String> names = new TreeSet<>();
        for (Method m : TrainDesk.class.getDeclaredMethods()) {
            if (!Modifier.isPrivate(m.getModifiers())) {
                found.add(written(m));
                names.add(m.getName());
                due.is(m + " is public alone", m.getModifiers(), Modifier.PUBLIC);
            }
        }
        due.is("face " + found, found.equals(new TreeSet<>(Arrays.asList(FACE))), true);
        privateNames(due, TrainDesk.class, names);
        for (Class<?> inside : TrainDesk.class.getDeclaredClasses()) {
            due.is(inside + " is static", Modifier.isStatic(inside.getModifiers()), true);
            privateNames(due, inside, names);
        }
        fields(due);
        Constructor<?>[] made = TrainDesk.class.getDeclaredConstructors();
        due.is("constructors", made.length, 1);
        due.is("its parameters", made[0].getParameterCount(), 0);
        due.is("it is public", made[0].getModifiers(), Modifier.PUBLIC);
        Class<?>[] thrown = TrainDesk.class.getMethod("was", int.class, int.class, boolean.class).getExceptionTypes();
        due.is("was throws", thrown.length == 1 && thrown[0] == NoSuchElementException.class, true);
        due.end("FaceTest");
    }

    private static void privateNames(Due due, Class<?> type, TreeSet<String> names) {
        for (Method m : type.getDeclaredMethods()) {
            if (Modifier.isPrivate(m.getModifiers()) || type != TrainDesk.class) {
                due.is(m + " bears a name of the face", names.contains(m.getName()), false);
            }
        }
    }

    private static void fields(Due due) throws Exception {
        int seen = 0;
        for (Field f : TrainDesk.class.getDeclaredFields()) {
            seen += Modifier.isPrivate(f.getModifiers()) ? 0 : 1;
            if (Modifier.isStatic(f.getModifiers())) {
                due.is(f + " is final", Modifier.isFinal(f.getModifiers()), true);
            }
        }
        due.is("constants that can be seen", seen, 1);
        due.is("NONE", TrainDesk.class.getField("NONE").getInt(null), -1);
    }

    private static String written(Method m) {
        StringBuilder text = new StringBuilder(m.getName()).append('(');
        for (int i = 0; i < m.getParameterCount(); i++) {
            text.append(i == 0 ? "" : ",").append(m.getParameterTypes()[i].getName());
        }
        return text.append(')').append(m.getReturnType().getName()).toString();
    }
}
