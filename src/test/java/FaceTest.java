import java.lang.reflect.Constructor;
import java.lang.reflect.Field;
import java.lang.reflect.Method;
import java.lang.reflect.Modifier;
import java.util.ArrayList;
import java.util.Arrays;
import java.util.Collections;
import java.util.List;
import java.util.Set;
import java.util.TreeSet;

/** The public face: just the document's members, and no private method with the name of a public one. */
public final class FaceTest {
    private static final String[] FACE = {
        "int person(int)", "int office()", "int bond(int,int,int,int,int)", "int list(int)", "int clear(int)",
        "int couple(int,int)", "int pair(int,int,int)", "int sign(int)", "boolean end(int)", "int choice(int)",
        "int take(int,int)", "int why(int,int,int)", "int order(int)", "int law(int,int)", "int judge(int)",
        "int offer()", "int all()", "int best(int)", "int steps(int,int)", "int near()", "int places()",
        "int gain(int)", "int left()", "int same()", "int lot(int)", "int mean()", "int gone(int,int)",
        "int count(int)", "int of(int,int)", "int row(int)"};

    public static void main(String[] args) throws ReflectiveOperationException {
        List<String> due = new ArrayList<>(Arrays.asList(FACE));
        List<String> got = new ArrayList<>();
        Set<String> names = new TreeSet<>();
        for (Method m : SealedBonds.class.getDeclaredMethods()) {
            if (!Modifier.isPrivate(m.getModifiers())) {
                Check.holds(m + " is public", Modifier.isPublic(m.getModifiers()));
                got.add(told(m));
                names.add(m.getName());
            }
        }
        Collections.sort(due);
        Collections.sort(got);
        Check.holds("the methods are " + due + ", got " + got, due.equals(got));
        noPrivateBears(names, SealedBonds.class);
        for (Class<?> inside : SealedBonds.class.getDeclaredClasses()) {
            Check.holds(inside + " is static", Modifier.isStatic(inside.getModifiers()));
            noPrivateBears(names, inside);
        }
        Check.holds("twelve classes at most", SealedBonds.class.getDeclaredClasses().length + 1 <= 12);
        for (Field f : SealedBonds.class.getDeclaredFields()) {
            Check.holds(f + " is private, or NONE", Modifier.isPrivate(f.getModifiers()) || f.getName().equals("NONE"));
        }
        Field none = SealedBonds.class.getField("NONE");
        Check.holds("NONE is a constant", Modifier.isStatic(none.getModifiers()) && Modifier.isFinal(none.getModifiers()));
        Check.due("NONE", SealedBonds.NONE, -1);
        Constructor<?>[] made = SealedBonds.class.getDeclaredConstructors();
        Check.due("constructors", made.length, 1);
        Check.holds("it is public", Modifier.isPublic(made[0].getModifiers()) && made[0].getParameterCount() == 0);
        int kind = SealedBonds.class.getModifiers();
        Check.holds("the class is public and final", Modifier.isPublic(kind) && Modifier.isFinal(kind));
        Check.due("row says that it throws", SealedBonds.class.getMethod("row", int.class).getExceptionTypes().length, 1);
        Check.close("FaceTest");
    }

    private static void noPrivateBears(Set<String> names, Class<?> where) {
        for (Method m : where.getDeclaredMethods()) {
            boolean own = where == SealedBonds.class && Modifier.isPublic(m.getModifiers());
            Check.holds(m + " has a name of its own", own || !names.contains(m.getName()));
        }
    }

    private static String told(Method m) {
        StringBuilder text = new StringBuilder(m.getReturnType().getName()).append(' ').append(m.getName()).append('(');
        for (int i = 0; i < m.getParameterCount(); i++) {
            text.append(i > 0 ? "," : "").append(m.getParameterTypes()[i].getName());
        }
        return text.append(')').toString();
    }
}
