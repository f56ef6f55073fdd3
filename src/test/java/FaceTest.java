import java.lang.reflect.Constructor;
import java.lang.reflect.Field;
import java.lang.reflect.Member;
import java.lang.reflect.Method;
import java.lang.reflect.Modifier;
import java.util.Set;
import java.util.TreeSet;

/** The public face: the document's constants, constructor and methods, and no others. */
public final class FaceTest {
    private static final String[] METHODS = {
        "int thing(int,int,int,int,int)", "int one(int,int,int)", "int brothers(int,int,boolean)",
        "int say(int)", "int wipe()", "int fault()", "int judge(int)", "int behind(int,int)",
        "int purse(int,int)", "int sold(int)", "int done()", "int sack(int,int,int)",
        "int careers(int,int)", "int ring(int,int,int,int)", "long stop(int,int,int,int)",
        "int sells(int,int,int)", "int ahead(int,int)", "int forget()", "int fits(int)",
        "int ask(int)", "int shelf(int,int,int)", "long doors(int,int,int,int)",
        "int year(int,int,int)", "int image(int)", "int restore(int)", "int told(int)"};

    public static void main(String[] args) throws IllegalAccessException {
        Class<?> face = TwiceStolen.class;
        Due.due("public and final", face.getModifiers(), Modifier.PUBLIC | Modifier.FINAL);
        methods(face);
        constants(face);
        Constructor<?>[] made = face.getDeclaredConstructors();
        Due.due("constructors", made.length, 1);
        Due.due("it takes", made[0].getParameterCount(), 0);
        Due.due("it is public", made[0].getModifiers(), Modifier.PUBLIC);
        for (Class<?> inside : face.getDeclaredClasses()) {
            int is = inside.getModifiers();
            Due.due(inside + " is static", Modifier.isStatic(is) ? 1 : 0, 1);
            Due.due(inside + " is public", Modifier.isPublic(is) ? 1 : 0, 0);
        }
        Due.due("some twelve classes", face.getDeclaredClasses().length + 1 <= 12 ? 1 : 0, 1);
        Due.end();
    }

    private static void methods(Class<?> face) {
        Set<String> due = new TreeSet<>(Set.of(METHODS));
        Set<String> names = new TreeSet<>();
        for (String method : METHODS) {
            names.add(method.substring(method.indexOf(' ') + 1, method.indexOf('(')));
        }
        Set<String> there = new TreeSet<>();
        for (Method method : face.getDeclaredMethods()) {
            if (Modifier.isPrivate(method.getModifiers())) {
                Due.due("private " + method.getName(), names.contains(method.getName()) ? 1 : 0, 0);
            } else {
                there.add(told(method));
            }
        }
        for (String method : due) {
            Due.due(method, there.contains(method) ? 1 : 0, 1);
        }
        for (String method : there) {
            Due.due("more than told: " + method, due.contains(method) ? 1 : 0, 1);
        }
    }

    private static String told(Method method) {
        StringBuilder text = new StringBuilder();
        text.append(method.getReturnType()).append(' ').append(method.getName()).append('(');
        String comma = "";
        for (Class<?> kind : method.getParameterTypes()) {
            text.append(comma).append(kind);
            comma = ",";
        }
        return text.append(')').toString();
    }

    private static void constants(Class<?> face) throws IllegalAccessException {
        Due.due("UNKNOWN", TwiceStolen.UNKNOWN, -1);
        Due.due("OUTSIDE", TwiceStolen.OUTSIDE, -2);
        Due.due("STATE", TwiceStolen.STATE, -3);
        Due.due("FULL", TwiceStolen.FULL, -4);
        Due.due("NO", TwiceStolen.NO, -5);
        Due.due("NONE", TwiceStolen.NONE, -6);
        Due.due("GONE", TwiceStolen.GONE, -1000000000000000000L);
        int seen = 0;
        for (Field field : face.getDeclaredFields()) {
            if (isSeen(field)) {
                seen++;
                Due.due(field.getName() + " is final", Modifier.isFinal(field.getModifiers()) ? 1 : 0, 1);
                Due.due(field.getName() + " is long",
                        field.getType() == long.class ? 1 : 0, field.getName().equals("GONE") ? 1 : 0);
            }
        }
        Due.due("fields that are seen", seen, 7);
    }

    private static boolean isSeen(Member member) {
        return !Modifier.isPrivate(member.getModifiers());
    }
}
