import java.lang.reflect.Constructor;
import java.lang.reflect.Field;
import java.lang.reflect.Method;
import java.lang.reflect.Modifier;
import java.util.ArrayList;
import java.util.Arrays;
import java.util.Collections;
import java.util.List;

/** The public face, and rules 1 and 5 of LANGUAGE.md as far as reflection shows them. */
public final class FaceTest {
    private static final String[] FACE = {
        "add(long,long,long)int",
        "best(int,int,long,int,int)int IndexOutOfBoundsException IllegalArgumentException",
        "close(int)int IndexOutOfBoundsException",
        "commit()int",
        "counted(int,int,long,int)int IndexOutOfBoundsException IllegalArgumentException",
        "cursor(int,int,long,int,int,int)int IndexOutOfBoundsException IllegalArgumentException IllegalStateException",
        "drop(int)boolean IndexOutOfBoundsException",
        "group(int,int,long,int)long IndexOutOfBoundsException IllegalArgumentException",
        "groups(int)int IndexOutOfBoundsException",
        "hit(int,int,long,int)int IndexOutOfBoundsException IllegalArgumentException",
        "iterator(int,int,long,int)int IndexOutOfBoundsException IllegalArgumentException IllegalStateException",
        "left(int)int IndexOutOfBoundsException",
        "letGo(int)int IndexOutOfBoundsException IllegalStateException",
        "merge(int)int",
        "next(int)int IndexOutOfBoundsException IllegalArgumentException NoSuchElementException",
        "object(int,int)long IndexOutOfBoundsException",
        "page(int)int IndexOutOfBoundsException",
        "place(int,int,long,int)int IndexOutOfBoundsException IllegalArgumentException",
        "segment(int,int)int IndexOutOfBoundsException",
        "size(int)int IndexOutOfBoundsException",
        "state(int)int IndexOutOfBoundsException",
        "take(int,int)int IndexOutOfBoundsException IllegalArgumentException",
        "tick(int)int IllegalArgumentException",
        "told(int)int IndexOutOfBoundsException",
        "view()int",
    };

    private static String told(Method m) {
        StringBuilder text = new StringBuilder(m.getName()).append('(');
        for (int i = 0; i < m.getParameterCount(); i++) {
            text.append(i == 0 ? "" : ",").append(m.getParameterTypes()[i].getSimpleName());
        }
        text.append(')').append(m.getReturnType().getSimpleName());
        for (Class<?> e : m.getExceptionTypes()) {
            text.append(' ').append(e.getSimpleName());
        }
        return text.toString();
    }

    private static void checkMethods(Expect expect) {
        List<String> open = new ArrayList<>();
        List<String> names = new ArrayList<>();
        for (Method m : GroupCursors.class.getDeclaredMethods()) {
            if (!Modifier.isPrivate(m.getModifiers())) {
                open.add(told(m));
                names.add(m.getName());
            }
        }
        Collections.sort(open);
        expect.dueTruth("the methods are " + open, true, () -> open.equals(Arrays.asList(FACE)));
        for (Method m : GroupCursors.class.getDeclaredMethods()) {
            if (Modifier.isPrivate(m.getModifiers())) {
                expect.dueTruth("private " + m.getName() + " bears a public name", false, () -> names.contains(m.getName()));
            }
        }
    }

    private static void checkFields(Expect expect, Class<?> c) {
        for (Field f : c.getDeclaredFields()) {
            int how = f.getModifiers();
            boolean isFull = c == GroupCursors.class && f.getName().equals("FULL");
            expect.dueTruth("the field " + f + " is public", isFull, () -> Modifier.isPublic(how));
            expect.dueTruth("the field " + f + " is private", !isFull, () -> Modifier.isPrivate(how));
            if (Modifier.isStatic(how)) {
                expect.dueTruth("the static field " + f + " is final", true, () -> Modifier.isFinal(how));
            }
        }
    }

    public static void main(String[] args) {
        Expect expect = new Expect();
        int how = GroupCursors.class.getModifiers();
        expect.dueTruth("the class is public and final", true, () -> Modifier.isPublic(how) && Modifier.isFinal(how));
        expect.due("FULL", -4, () -> GroupCursors.FULL);
        Constructor<?>[] made = GroupCursors.class.getDeclaredConstructors();
        expect.due("constructors", 1, () -> made.length);
        expect.dueTruth("it is public and takes nothing", true,
            () -> Modifier.isPublic(made[0].getModifiers()) && made[0].getParameterCount() == 0);
        checkMethods(expect);
        checkFields(expect, GroupCursors.class);
        for (Class<?> c : GroupCursors.class.getDeclaredClasses()) {
            expect.dueTruth(c + " is static", true, () -> Modifier.isStatic(c.getModifiers()));
            checkFields(expect, c);
        }
        expect.done();
    }
}
