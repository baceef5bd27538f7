import java.lang.reflect.Constructor;
import java.lang.reflect.Field;
import java.lang.reflect.Method;
import java.lang.reflect.Modifier;
import java.util.Set;
import java.util.TreeSet;

/** The face of the class is that of the document, and nothing else of it can be seen from outside. */
public final class FaceTest {
    private static final Set<String> FACE = Set.of(
            "int NONE", "VersionRing(int,int,int)",
            "boolean token(int,int)", "boolean remove(int)", "boolean power(int,boolean)",
            "boolean cut(int,int,boolean)", "int put(int,int,int,int)", "int get(int,int,int)",
            "int found(int)", "int repaired()", "int handOver(int)", "int compare(int,int)",
            "int home(int,int)", "int targets(int,int)", "int holds(int,int)", "int count(int,int)",
            "int hints(int)", "int versions()", "int version(int,int)", "int context(int,int)");

    private FaceTest() {
    }

    public static void main(String[] args) {
        Due due = new Due("FaceTest");
        Set<String> seen = new TreeSet<>();
        Set<String> faceNames = new TreeSet<>();
        for (Field field : VersionRing.class.getDeclaredFields()) {
            note(seen, field.getModifiers(), field.getType() + " " + field.getName());
            due.yes(field + " is final if static", !Modifier.isStatic(field.getModifiers())
                    || Modifier.isFinal(field.getModifiers()));
        }
        for (Constructor<?> maker : VersionRing.class.getDeclaredConstructors()) {
            note(seen, maker.getModifiers(), "VersionRing" + kinds(maker.getParameterTypes()));
        }
        for (Method method : VersionRing.class.getDeclaredMethods()) {
            note(seen, method.getModifiers(),
                    method.getReturnType() + " " + method.getName() + kinds(method.getParameterTypes()));
            if (Modifier.isPublic(method.getModifiers())) {
                faceNames.add(method.getName());
            }
        }
        for (Method method : VersionRing.class.getDeclaredMethods()) {
            due.yes(method + " has a name of its own", Modifier.isPublic(method.getModifiers())
                    || !faceNames.contains(method.getName()));
        }
        for (Class<?> inside : VersionRing.class.getDeclaredClasses()) {
            due.yes(inside + " is static", Modifier.isStatic(inside.getModifiers()));
            due.no(inside + " is public", Modifier.isPublic(inside.getModifiers()));
        }
        due.yes("the face " + seen, seen.equals(new TreeSet<>(FACE)));
        due.yes("the class is public and final", Modifier.isPublic(VersionRing.class.getModifiers())
                && Modifier.isFinal(VersionRing.class.getModifiers()));
        due.is("NONE", -1, VersionRing.NONE);
        due.end();
    }

    private static void note(Set<String> seen, int modifiers, String member) {
        if (!Modifier.isPrivate(modifiers)) {
            seen.add(Modifier.isPublic(modifiers) ? member : "not public: " + member);
        }
    }

    private static String kinds(Class<?>[] parameters) {
        StringBuilder text = new StringBuilder("(");
        for (Class<?> parameter : parameters) {
            text.append(text.length() > 1 ? "," : "").append(parameter);
        }
        return text.append(")").toString();
    }
}
