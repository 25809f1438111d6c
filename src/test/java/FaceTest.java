import java.lang.reflect.Constructor;
import java.lang.reflect.Field;
import java.lang.reflect.Member;
import java.lang.reflect.Method;
import java.lang.reflect.Modifier;
import java.util.Arrays;
import java.util.HashSet;
import java.util.Set;
import java.util.TreeSet;

/** The document's face and rule 1 of LANGUAGE.md: no other member is seen, no other method has a public one's name. */
public final class FaceTest {
    private static final String[] FACE = {
        "int feed(int,int,int,int,int)", "boolean end(int)", "int rules()", "int fault()", "int rule(int)",
        "int person(int)", "boolean tag(int,int,boolean)", "int fund(int,int)", "int gift(int,int)",
        "int ask(int,int)", "boolean pay(int,int)", "int owes(int)", "int next()", "int chest(int,int)",
        "int loan(int,int) throws java.util.NoSuchElementException",
        "int surety(int,int) throws java.util.NoSuchElementException",
        "int taken(int,int) throws java.util.NoSuchElementException",
        "int about(int,int) throws java.util.NoSuchElementException", "int ring(int)", "int count(int)"
    };

    public static void main(String[] args) throws NoSuchFieldException {
        Class<?> face = LoanChest.class;
        Check.yes("public and final", Modifier.isPublic(face.getModifiers()) && Modifier.isFinal(face.getModifiers()));
        Set<String> seen = new TreeSet<>();
        Set<String> names = new HashSet<>();
        for (Method method : face.getDeclaredMethods()) {
            if (isSeen(method)) {
                seen.add(signature(method));
                names.add(method.getName());
            }
        }
        Set<String> due = new TreeSet<>(Arrays.asList(FACE));
        Check.yes("methods " + seen + ", due are " + due, seen.equals(due));
        privateNames(face, names);
        for (Field field : face.getDeclaredFields()) {
            Check.yes("field " + field.getName(), !isSeen(field) || field.getName().equals("NONE"));
            boolean isStatic = Modifier.isStatic(field.getModifiers());
            Check.yes("static " + field.getName(), !isStatic || Modifier.isFinal(field.getModifiers()));
        }
        int none = Modifier.PUBLIC | Modifier.STATIC | Modifier.FINAL;
        Check.same("NONE", LoanChest.NONE, -1);
        Check.same("how NONE is declared", face.getDeclaredField("NONE").getModifiers(), none);
        Constructor<?>[] constructors = face.getDeclaredConstructors();
        Check.same("constructors", constructors.length, 1);
        Check.same("its parameters", constructors[0].getParameterCount(), 0);
        Check.yes("it is public", Modifier.isPublic(constructors[0].getModifiers()));
        for (Class<?> inside : face.getDeclaredClasses()) {
            int bits = inside.getModifiers();
            Check.yes("class " + inside.getName(), Modifier.isStatic(bits) && !Modifier.isPublic(bits)
                && !Modifier.isProtected(bits));
            privateNames(inside, names);
        }
        Check.finish();
    }

    private static void privateNames(Class<?> owner, Set<String> names) {
        for (Method method : owner.getDeclaredMethods()) {
            boolean ofFace = owner == LoanChest.class && Modifier.isPublic(method.getModifiers());
            Check.yes(owner.getName() + "." + method.getName(), ofFace || !names.contains(method.getName()));
        }
    }

    private static boolean isSeen(Member member) {
        return !Modifier.isPrivate(member.getModifiers()) && !member.isSynthetic();
    }

    private static String signature(Method method) {
        StringBuilder made = new StringBuilder();
        for (Class<?> one : method.getParameterTypes()) {
            made.append(made.length() == 0 ? "" : ",").append(one.getName());
        }
        String kind = Modifier.isPublic(method.getModifiers()) ? "" : "hidden ";
        made.append(")");
        for (Class<?> one : method.getExceptionTypes()) {
            made.append(" throws ").append(one.getName());
        }
        return kind + method.getReturnType().getName() + " " + method.getName() + "(" + made;
    }
}
