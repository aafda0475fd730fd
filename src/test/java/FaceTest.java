import java.lang.reflect.Constructor;
import java.lang.reflect.Field;
import java.lang.reflect.Method;
import java.lang.reflect.Modifier;
import java.util.TreeSet;

/** The face is the document's, to the letter, and nothing else can be seen. */
public final class FaceTest {
    private static final String FACE = "feed(int,int,int,int,int)int text(int)int fault(int)int named(int)int look(int,int)int "
        + "stands(int)int holder(int)int law(int,int)long go(int)int join(int)int out(int)boolean swap(int,int,int)boolean "
        + "kneel(int,int)boolean cough(int)boolean move(int,int)boolean was(int,int)int ruled(int,int)int served(int)int "
        + "coming(int,int,int)int decree(int,int,int)int coup()int rests(int,int,int)int rest(int,int,int,int)int "
        + "best(int,int,int,int)int fairest(int,int,int)int gain(int,int)int stone(int,int,int)int strike(int)int "
        + "known(int)boolean came()int one(int,int)int empty(int,int)int chance(int,int,int)int tried(int,int,int)int "
        + "undo()int keep()int back()int count(int)int";

    public static void main(String[] args) {
        Check check = new Check();
        TreeSet<String> wanted = new TreeSet<>(java.util.List.of(FACE.split(" ")));
        TreeSet<String> seen = new TreeSet<>();
        TreeSet<String> hidden = new TreeSet<>();
        for (Method m : ThirdInLine.class.getDeclaredMethods()) {
            if (Modifier.isPrivate(m.getModifiers())) {
                hidden.add(m.getName());
            } else {
                seen.add(signature(m));
                check.due(m + " is public and no static", Modifier.isPublic(m.getModifiers()) && !Modifier.isStatic(m.getModifiers()), true);
            }
        }
        check.due("methods seen " + seen, seen.equals(wanted), true);
        for (String one : wanted) {
            String name = one.substring(0, one.indexOf('('));
            check.due("private method " + name, hidden.contains(name), false);
            for (Class<?> inside : ThirdInLine.class.getDeclaredClasses()) {
                for (Method m : inside.getDeclaredMethods()) {
                    check.due(inside + " has a method " + name, m.getName().equals(name), false);
                }
            }
        }
        check.due("final class", Modifier.isFinal(ThirdInLine.class.getModifiers()), true);
        Constructor<?>[] constructors = ThirdInLine.class.getDeclaredConstructors();
        check.due("constructors", constructors.length, 1);
        check.due("its parameters", constructors[0].getParameterCount(), 0);
        check.due("public constructor", Modifier.isPublic(constructors[0].getModifiers()), true);
        for (Field f : ThirdInLine.class.getDeclaredFields()) {
            int m = f.getModifiers();
            check.due(f + " is private", Modifier.isPrivate(m), !f.getName().equals("NONE"));
            check.due(f + " is final where static", Modifier.isStatic(m) && !Modifier.isFinal(m), false);
        }
        for (Class<?> inside : ThirdInLine.class.getDeclaredClasses()) {
            check.due(inside + " is static and not public",
                Modifier.isStatic(inside.getModifiers()) && !Modifier.isPublic(inside.getModifiers()), true);
        }
        check.due("classes are few", ThirdInLine.class.getDeclaredClasses().length < 12, true);
        check.due("NONE", ThirdInLine.NONE, -1);
        check.end("FaceTest");
    }

    private static String signature(Method m) {
        StringBuilder text = new StringBuilder(m.getName()).append('(');
        for (int i = 0; i < m.getParameterCount(); i++) {
            text.append(i == 0 ? "" : ",").append(m.getParameterTypes()[i].getName());
        }
        return text.append(')').append(m.getReturnType().getName()).toString();
    }
}
