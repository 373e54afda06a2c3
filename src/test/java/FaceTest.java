import java.lang.reflect.Constructor;
import java.lang.reflect.Field;
import java.lang.reflect.Method;
import java.lang.reflect.Modifier;
import java.util.Map;
import java.util.Set;
import java.util.TreeMap;
import java.util.TreeSet;

/** The public face is that of the document, and nothing else can be seen from outside. */
public final class FaceTest {
    private static final String[] METHODS = {
        "boolean write(char)", "int define(char)", "boolean insert(int,char)", "boolean erase(int,int)", "int ask(int,int,char)",
        "boolean cancel(int)", "int work()", "int answer(int)", "int inbox()", "int length()", "int character(int)",
        "int element(int,int)", "int fault(int,int)", "int fertile()", "int formed(int)",
    };

    public static void main(String[] args) throws IllegalAccessException {
        due("the class", Modifier.toString(TagGuide.class.getModifiers()), "public final");
        constructors();
        constants();
        methods();
        namesOfTheFace();
        for (Class<?> inside : TagGuide.class.getDeclaredClasses()) {
            due("static " + inside, Modifier.isStatic(inside.getModifiers()), true);
            due("hidden " + inside, Modifier.isPublic(inside.getModifiers()) || Modifier.isProtected(inside.getModifiers()), false);
        }
        Probe.end();
    }

    private static void due(String what, Object got, Object want) {
        Probe.due(what, got, want);
    }

    private static void constructors() {
        Constructor<?>[] all = TagGuide.class.getDeclaredConstructors();
        due("constructors", all.length, 1);
        due("its parameters", all[0].getParameterCount(), 0);
        due("it is public", Modifier.isPublic(all[0].getModifiers()), true);
    }

    private static void constants() throws IllegalAccessException {
        Map<String, Integer> found = new TreeMap<>();
        for (Field field : TagGuide.class.getDeclaredFields()) {
            if (!Modifier.isPrivate(field.getModifiers())) {
                due("modifiers of " + field.getName(), Modifier.toString(field.getModifiers()), "public static final");
                found.put(field.getName(), field.getInt(null));
            } else if (Modifier.isStatic(field.getModifiers())) {
                due("final " + field.getName(), Modifier.isFinal(field.getModifiers()), true);
            }
        }
        due("constants", found.toString(), "{FULL=-2, NONE=-1, WAITS=-3}");
    }

    /** By the language's first rule no other method bears a name of the face. */
    private static void namesOfTheFace() {
        Set<String> face = new TreeSet<>();
        for (String method : METHODS) {
            face.add(method.substring(method.indexOf(' ') + 1, method.indexOf('(')));
        }
        for (Method method : TagGuide.class.getDeclaredMethods()) {
            due("own name " + method, Modifier.isPrivate(method.getModifiers()) && face.contains(method.getName()), false);
        }
        for (Class<?> inside : TagGuide.class.getDeclaredClasses()) {
            for (Method method : inside.getDeclaredMethods()) {
                due("own name " + method, face.contains(method.getName()), false);
            }
        }
    }

    private static void methods() {
        Map<String, Boolean> found = new TreeMap<>();
        for (Method method : TagGuide.class.getDeclaredMethods()) {
            if (!Modifier.isPrivate(method.getModifiers())) {
                StringBuilder face = new StringBuilder(method.getReturnType() + " " + method.getName() + "(");
                for (Class<?> type : method.getParameterTypes()) {
                    face.append(face.charAt(face.length() - 1) == '(' ? "" : ",").append(type);
                }
                found.put(face.append(')').toString(), Modifier.isPublic(method.getModifiers()));
            }
        }
        due("how many methods", found.size(), METHODS.length);
        for (String method : METHODS) {
            due(method, String.valueOf(found.get(method)), "true");
        }
    }
}
