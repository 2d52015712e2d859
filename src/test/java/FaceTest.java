import java.lang.reflect.Field;
import java.lang.reflect.Method;
import java.lang.reflect.Modifier;
import java.util.Arrays;
import java.util.List;
import java.util.Set;
import java.util.TreeSet;

/** The public face as the document has it, and what LANGUAGE.md says of members. */
public final class FaceTest {
    private static final List<String> FACE = List.of("int node(char,int,int,int)", "int stage(int,int,int)",
        "int stageData(int,boolean,int)", "int unstage()", "int define()", "int update()", "char fault()",
        "int faultName()", "int todo()", "int todoAt(int)", "char kindOf(int)", "long hash(int)", "long hashAnew(int)",
        "boolean needs(int,int)", "int needed(int)", "int alias(int,int)", "int unname(int)", "int definitions()",
        "int collect()", "int patches()", "int patchSize(int)", "int apply(int)", "int compose(int,int)",
        "int mergePatches(int,int)", "int commit()", "int branch()", "int goTo(int)", "int merge(int)",
        "int conflictAt(int)", "int ancestor(int,int)", "int commits()", "int hashIn(int,int)", "char work(int)",
        "int writeValue(int)", "char test(int)", "int tests()", "int job(int,int)", "int goOn(int)",
        "char jobState(int)", "char outcome(int)", "int result(int)", "int retry(int,int)", "int down(int)",
        "boolean up(int)", "int lacking(int,int)", "long traffic()", "int writeTerm(int)", "int writeType(int)",
        "char lineAt(int)", "boolean isSound()", "float namedShare()", "double meanNeeded()");

    private static int wrong;

    private static void due(String what, Object want, Object got) {
        if (!want.equals(got)) {
            wrong++;
            System.out.println(what + " is " + got + ", due is " + want);
        }
    }

    private static String line(Method m) {
        List<String> types = Arrays.stream(m.getParameterTypes()).map(Class::getSimpleName).toList();
        return m.getReturnType().getSimpleName() + " " + m.getName() + "(" + String.join(",", types) + ")";
    }

    public static void main(String[] args) {
        Class<?> face = HashedCommons.class;
        due("modifiers", Modifier.PUBLIC | Modifier.FINAL, face.getModifiers());
        due("constructors", 1, face.getDeclaredConstructors().length);
        due("public constructors", 1, face.getConstructors().length);
        Set<String> found = new TreeSet<>();
        Set<String> names = new TreeSet<>();
        for (Method m : face.getDeclaredMethods()) {
            if (!Modifier.isPrivate(m.getModifiers())) {
                due(m + " is public", Modifier.PUBLIC, m.getModifiers());
                found.add(line(m));
                names.add(m.getName());
            }
        }
        due("face", new TreeSet<>(FACE), found);
        for (Method m : face.getDeclaredMethods()) {
            boolean isHidden = Modifier.isPrivate(m.getModifiers()) && names.contains(m.getName());
            due("a private " + m.getName(), false, isHidden);
        }
        checkFields(face);
        due("some twelve classes", true, face.getDeclaredClasses().length <= 12);
        for (Class<?> inside : face.getDeclaredClasses()) {
            due(inside + " is static", true, Modifier.isStatic(inside.getModifiers()));
            due(inside + " is not public", false, Modifier.isPublic(inside.getModifiers()));
            checkFields(inside);
            for (Method m : inside.getDeclaredMethods()) {
                due(inside + ", " + m.getName() + " is in the face", false, names.contains(m.getName()));
                due(m + " has at most seven parameters", true, m.getParameterCount() <= 7);
            }
        }
        if (wrong > 0) {
            System.exit(1);
        }
        System.out.println("the face is as due");
    }

    private static void checkFields(Class<?> of) {
        int count = 0;
        for (Field f : of.getDeclaredFields()) {
            boolean isStatic = Modifier.isStatic(f.getModifiers());
            due(f + " is private", true, Modifier.isPrivate(f.getModifiers()));
            due(f + " is final, if static", true, !isStatic || Modifier.isFinal(f.getModifiers()));
            count += isStatic ? 0 : 1;
        }
        due(of + " has some twenty fields", true, count <= 20);
    }
}
