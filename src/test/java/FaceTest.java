import java.lang.reflect.Field;
import java.lang.reflect.Member;
import java.lang.reflect.Method;
import java.lang.reflect.Modifier;
import java.util.Set;
import java.util.TreeSet;

/** The public face of the document, and rules 1 and 5 of LANGUAGE.md. */
public final class FaceTest {
    private static final Set<String> METHODS = Set.of(
            "long get(int)", "void set(int,long)", "long counter()", "void jump(long)", "int run(int,int)",
            "long wanted(int)", "int finish(boolean,long)", "long done()");
    private static final Set<String> CONSTANTS = Set.of(
            "ILLEGAL", "DONE", "FENCE", "LOAD", "STORE", "ATOMIC", "FLOAT", "CONTROL");

    public static void main(String[] args) {
        constants();
        members();
        staticFieldsAreFinal(IntegerCore.class);
        for (Class<?> inside : IntegerCore.class.getDeclaredClasses()) {
            staticFieldsAreFinal(inside);
            int modifiers = inside.getModifiers();
            Check.holds(inside + " is static and not public", Modifier.isStatic(modifiers)
                    && !Modifier.isPublic(modifiers) && !Modifier.isProtected(modifiers));
        }
        Check.end();
    }

    private static void constants() {
        Check.equal("ILLEGAL", IntegerCore.ILLEGAL, -1);
        Check.equal("DONE", IntegerCore.DONE, 0);
        Check.equal("FENCE", IntegerCore.FENCE, 1);
        Check.equal("LOAD", IntegerCore.LOAD, 2);
        Check.equal("STORE", IntegerCore.STORE, 3);
        Check.equal("ATOMIC", IntegerCore.ATOMIC, 4);
        Check.equal("FLOAT", IntegerCore.FLOAT, 5);
        Check.equal("CONTROL", IntegerCore.CONTROL, 6);
    }

    private static void members() {
        int modifiers = IntegerCore.class.getModifiers();
        Check.holds("the class is public and final", Modifier.isPublic(modifiers) && Modifier.isFinal(modifiers));
        Check.equal("constructors", IntegerCore.class.getDeclaredConstructors().length, 1);
        Check.holds("the constructor is public", IntegerCore.class.getConstructors().length == 1
                && IntegerCore.class.getConstructors()[0].getParameterCount() == 0);
        Set<String> names = new TreeSet<>();
        Set<String> hidden = new TreeSet<>();
        Set<String> shown = new TreeSet<>();
        for (Method method : IntegerCore.class.getDeclaredMethods()) {
            if (isPrivate(method)) {
                hidden.add(method.getName());
            } else {
                names.add(method.getName());
                shown.add(signature(method));
            }
        }
        Check.holds("the methods are the document's: " + shown, shown.equals(METHODS));
        hidden.retainAll(names);
        Check.holds("no private method bears a public name: " + hidden, hidden.isEmpty());
        Set<String> fields = new TreeSet<>();
        for (Field field : IntegerCore.class.getDeclaredFields()) {
            if (!isPrivate(field)) {
                fields.add(field.getName());
            }
        }
        Check.holds("the constants are the document's: " + fields, fields.equals(CONSTANTS));
    }

    private static boolean isPrivate(Member member) {
        return member.isSynthetic() || Modifier.isPrivate(member.getModifiers());
    }

    private static String signature(Method method) {
        StringBuilder text = new StringBuilder(method.getReturnType() + " " + method.getName() + "(");
        String gap = "";
        for (Class<?> type : method.getParameterTypes()) {
            text.append(gap).append(type);
            gap = ",";
        }
        return text.append(")").toString();
    }

    private static void staticFieldsAreFinal(Class<?> type) {
        for (Field field : type.getDeclaredFields()) {
            Check.holds(field + " is final if it is static",
                    !Modifier.isStatic(field.getModifiers()) || Modifier.isFinal(field.getModifiers()));
        }
    }
}
