import java.lang.reflect.Constructor;
import java.lang.reflect.Field;
import java.lang.reflect.Method;
import java.lang.reflect.Modifier;
import java.util.Arrays;
import java.util.Set;
import java.util.TreeSet;

/** The public face is the document's, with no member more, and the rules of form that can be seen from it. */
public final class FaceTest {
    private static final String[] FACE = {
        "int write(int)", "int wipe()", "int fault()", "int city()", "int street(int,int)", "int broom(int,int)",
        "int dawn()", "int walk(int,int)", "int vote()", "int bend(int)", "int hand(int)", "int undo()",
        "int dust(int,int)", "int knees(int)", "int knee(int)", "int best(int,int,int)", "int bends(int)",
        "int judge(int,long)", "int heap(int,int,int)", "int unheap()", "int whose(int)", "int share(int,boolean)",
        "int rests(int,int,int)", "int twice(int,int,int,boolean)", "long seed(long)", "int years(int)",
        "int keep(int)", "int again(int)", "int count(int)"};
    private static final String[] CONSTANTS = {"FULL=-4", "NONE=-9", "OUTSIDE=-2", "STATE=-3", "UNKNOWN=-1"};
    private static final Due DUE = new Due("FaceTest");

    public static void main(String[] args) throws Exception {
        Class<?> face = DustVote.class;
        yes("the class is public and final", Modifier.isPublic(face.getModifiers()) && Modifier.isFinal(face.getModifiers()));
        Set<String> names = methods(face);
        constants(face);
        Constructor<?>[] made = face.getDeclaredConstructors();
        yes("one public constructor, of nothing", made.length == 1 && made[0].getParameterCount() == 0
            && Modifier.isPublic(made[0].getModifiers()));
        for (Class<?> inside : face.getDeclaredClasses()) {
            yes(inside + " is static", Modifier.isStatic(inside.getModifiers()) || inside.isRecord() || inside.isEnum());
            yes(inside + " is not public", !Modifier.isPublic(inside.getModifiers()) && !Modifier.isProtected(inside.getModifiers()));
            noSameNames(inside, names);
            fields(inside);
        }
        fields(face);
        yes("at most some twelve classes", face.getDeclaredClasses().length <= 12);
        DUE.end();
    }

    private static void yes(String what, boolean so) {
        DUE.is(what, so ? 1 : 0, 1);
    }

    private static Set<String> methods(Class<?> face) {
        Set<String> seen = new TreeSet<>();
        Set<String> names = new TreeSet<>();
        for (Method method : face.getDeclaredMethods()) {
            if (!Modifier.isPrivate(method.getModifiers())) {
                yes(method + " is public and no static one", Modifier.isPublic(method.getModifiers()) && !Modifier.isStatic(method.getModifiers()));
                String takes = Arrays.toString(Arrays.stream(method.getParameterTypes()).map(Class::getName).toArray());
                seen.add(method.getReturnType() + " " + method.getName() + takes.replace(" ", "").replace('[', '(').replace(']', ')'));
                names.add(method.getName());
            }
        }
        Set<String> want = new TreeSet<>(Arrays.asList(FACE));
        yes("the methods are " + want + ", not " + seen, seen.equals(want));
        for (Method method : face.getDeclaredMethods()) {
            yes(method + " has a name of its own", !Modifier.isPrivate(method.getModifiers()) || !names.contains(method.getName()));
            yes(method + " takes at most seven", method.getParameterCount() <= 7);
        }
        return names;
    }

    private static void noSameNames(Class<?> inside, Set<String> names) {
        for (Method method : inside.getDeclaredMethods()) {
            yes(method + " has a name of its own", !names.contains(method.getName()));
            yes(method + " takes at most seven", method.getParameterCount() <= 7);
        }
    }

    private static void fields(Class<?> holder) {
        int many = 0;
        for (Field field : holder.getDeclaredFields()) {
            boolean isStatic = Modifier.isStatic(field.getModifiers());
            many += isStatic ? 0 : 1;
            yes(field + ", if static, is a constant number", !isStatic
                || Modifier.isFinal(field.getModifiers()) && field.getType().isPrimitive());
        }
        yes(holder + " has at most some twenty fields, not " + many, many <= 20);
    }

    private static void constants(Class<?> face) throws Exception {
        Set<String> seen = new TreeSet<>();
        for (Field field : face.getDeclaredFields()) {
            if (!Modifier.isPrivate(field.getModifiers())) {
                seen.add(field.getName() + "=" + field.getInt(null));
                yes(field + " is a public constant", Modifier.isPublic(field.getModifiers()) && Modifier.isFinal(field.getModifiers()));
            }
        }
        yes("the constants, not " + seen, seen.equals(new TreeSet<>(Arrays.asList(CONSTANTS))));
    }
}
