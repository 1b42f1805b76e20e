import java.lang.reflect.Constructor;
import java.lang.reflect.Field;
import java.lang.reflect.Method;
import java.lang.reflect.Modifier;
import java.util.Set;
import java.util.TreeSet;

/** The document's public face, and nothing beside it (rule 1 of LANGUAGE.md). */
public final class FaceTest {
    private static final Checks CHECKS = new Checks();
    private static final String[] FACE = {
        "int row(boolean,int,int)", "int share(boolean,int,int)", "int drop(boolean,int)",
        "int set(boolean,int,int,long)", "int get(boolean,int,int)", "int wrap(boolean,int,int,int)",
        "int effect(int,int,long)", "int make(int,long)", "int rack(int,int)", "int hang(int,int,int)",
        "int take(int,int,int,int)", "int head(int,int,int,int,long)", "int play(int,int)", "int failed()",
        "int mix(int,int)", "int hush()", "int at(int,int)", "int clock(long,int)", "long told()"
    };

    public static void main(String[] args) {
        theFaceIsTheDocuments();
        theRestIsHidden();
        CHECKS.end();
    }

    private static void theFaceIsTheDocuments() {
        CHECKS.holds("the class is public", Modifier.isPublic(LoopMixer.class.getModifiers()));
        CHECKS.holds("the class is final", Modifier.isFinal(LoopMixer.class.getModifiers()));
        Set<String> found = new TreeSet<>();
        Set<String> names = new TreeSet<>();
        for (Method method : LoopMixer.class.getDeclaredMethods()) {
            if (Modifier.isPrivate(method.getModifiers()) || method.isSynthetic()) {
                continue;
            }
            names.add(method.getName());
            found.add(signature(method));
            CHECKS.holds(method + " is public", Modifier.isPublic(method.getModifiers()));
            CHECKS.holds(method + " is not static", !Modifier.isStatic(method.getModifiers()));
        }
        CHECKS.holds("methods " + found, found.equals(new TreeSet<>(Set.of(FACE))));
        for (Method method : LoopMixer.class.getDeclaredMethods()) {
            boolean hidden = Modifier.isPrivate(method.getModifiers());
            CHECKS.holds("no public name: " + method, !hidden || !names.contains(method.getName()));
        }
        Constructor<?>[] makers = LoopMixer.class.getDeclaredConstructors();
        CHECKS.due("constructors", makers.length, 1);
        CHECKS.holds("it is public", Modifier.isPublic(makers[0].getModifiers()) && makers[0].getParameterCount() == 0);
        badIsAConstant();
    }

    private static void badIsAConstant() {
        CHECKS.due("BAD", LoopMixer.BAD, -1);
        int modifiers = 0;
        for (Field field : LoopMixer.class.getFields()) {
            CHECKS.holds(field + " is BAD, an int", field.getName().equals("BAD") && field.getType() == int.class);
            modifiers = field.getModifiers();
        }
        CHECKS.holds("BAD is static and final", Modifier.isStatic(modifiers) && Modifier.isFinal(modifiers));
    }

    private static String signature(Method method) {
        StringBuilder text = new StringBuilder(method.getReturnType() + " " + method.getName() + "(");
        for (int i = 0; i < method.getParameterCount(); i++) {
            text.append(i == 0 ? "" : ",").append(method.getParameterTypes()[i]);
        }
        return text.append(")").toString();
    }

    private static void theRestIsHidden() {
        for (Field field : LoopMixer.class.getDeclaredFields()) {
            boolean hidden = Modifier.isPrivate(field.getModifiers());
            CHECKS.holds(field + " is no part of the face", hidden || field.getName().equals("BAD"));
        }
        for (Class<?> inside : LoopMixer.class.getDeclaredClasses()) {
            int modifiers = inside.getModifiers();
            CHECKS.holds(inside + " is static", Modifier.isStatic(modifiers));
            CHECKS.holds(inside + " is hidden", !Modifier.isPublic(modifiers) && !Modifier.isProtected(modifiers));
        }
    }
}
