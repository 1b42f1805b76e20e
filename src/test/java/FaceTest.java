import java.io.IOException;
import java.lang.reflect.Constructor;
import java.lang.reflect.Field;
import java.lang.reflect.Method;
import java.lang.reflect.Modifier;
import java.nio.charset.StandardCharsets;
import java.nio.file.Files;
import java.nio.file.Paths;
import java.util.Set;
import java.util.TreeSet;

/** The document's public face, and those rules of LANGUAGE.md that can be seen from outside the code. */
public final class FaceTest {
    private static final Checks CHECKS = new Checks();
    private static final String[] FACE = {
        "int row(boolean,int,int)", "int share(boolean,int,int)", "int drop(boolean,int)",
        "int set(boolean,int,int,long)", "int get(boolean,int,int)", "int wrap(boolean,int,int,int)",
        "int effect(int,int,long)", "int make(int,long)", "int rack(int,int)", "int hang(int,int,int)",
        "int take(int,int,int,int)", "int head(int,int,int,int,long)", "int play(int,int)", "int failed()",
        "int mix(int,int)", "int hush()", "int at(int,int)", "int clock(long,int)", "long told()"
    };
    private static final String[] NOT_LEFT = {
        "import ", "Float.", "Double.", "StrictMath", "Exact(", "try {", "catch", "finally", "throw ", "->", "::",
        "synchronized", "assert ", "System.", "Random", "Thread", "hashCode", "toString", "static {", "package "
    };

    public static void main(String[] args) throws IOException {
        theFaceIsTheDocuments();
        staticFieldsAreConstants();
        theSourceKeepsToTheLanguage();
        CHECKS.end();
    }

    private static void theFaceIsTheDocuments() {
        CHECKS.holds("the class is public", Modifier.isPublic(LoopMixer.class.getModifiers()));
        CHECKS.holds("the class is final", Modifier.isFinal(LoopMixer.class.getModifiers()));
        Set<String> found = new TreeSet<>();
        Set<String> names = new TreeSet<>();
        for (Method method : LoopMixer.class.getDeclaredMethods()) {
            if (Modifier.isPrivate(method.getModifiers()) || method.isSynthetic()) {
                continue;
            }
            names.add(method.getName());
            found.add(signature(method));
            CHECKS.holds(method + " is public", Modifier.isPublic(method.getModifiers()));
            CHECKS.holds(method + " is not static", !Modifier.isStatic(method.getModifiers()));
        }
        CHECKS.holds("methods " + found, found.equals(new TreeSet<>(Set.of(FACE))));
        for (Method method : LoopMixer.class.getDeclaredMethods()) {
            boolean hidden = Modifier.isPrivate(method.getModifiers());
            CHECKS.holds("no public name: " + method, !hidden || !names.contains(method.getName()));
        }
        Constructor<?>[] makers = LoopMixer.class.getDeclaredConstructors();
        CHECKS.due("constructors", makers.length, 1);
        CHECKS.holds("it is public", Modifier.isPublic(makers[0].getModifiers()) && makers[0].getParameterCount() == 0);
        CHECKS.due("BAD", LoopMixer.BAD, -1);
    }

    private static String signature(Method method) {
        StringBuilder text = new StringBuilder(method.getReturnType() + " " + method.getName() + "(");
        for (int i = 0; i < method.getParameterCount(); i++) {
            text.append(i == 0 ? "" : ",").append(method.getParameterTypes()[i]);
        }
        return text.append(")").toString();
    }

    private static void staticFieldsAreConstants() {
        constantsOf(LoopMixer.class);
        for (Class<?> inside : LoopMixer.class.getDeclaredClasses()) {
            CHECKS.holds(inside + " is static", Modifier.isStatic(inside.getModifiers()));
            CHECKS.holds(inside + " is not public", !Modifier.isPublic(inside.getModifiers()));
            constantsOf(inside);
        }
    }

    private static void constantsOf(Class<?> type) {
        Set<Class<?>> left = Set.of(int.class, long.class, boolean.class, char.class, String.class);
        for (Field field : type.getDeclaredFields()) {
            if (Modifier.isStatic(field.getModifiers())) {
                CHECKS.holds(field + " is final", Modifier.isFinal(field.getModifiers()));
                CHECKS.holds(field + " is a constant", left.contains(field.getType()));
            }
            boolean seen = type == LoopMixer.class && !Modifier.isPrivate(field.getModifiers());
            CHECKS.holds(field + " is no part of the face", !seen || field.getName().equals("BAD"));
        }
    }

    private static void theSourceKeepsToTheLanguage() throws IOException {
        byte[] bytes = Files.readAllBytes(Paths.get("src/main/java/LoopMixer.java"));
        String source = new String(bytes, StandardCharsets.ISO_8859_1);
        String code = source.replaceAll("(?s)/\\*.*?\\*/", "").replaceAll("//[^\n]*", "");
        for (String word : NOT_LEFT) {
            CHECKS.holds("no '" + word + "' in the code", !code.contains(word));
        }
        boolean plain = true;
        for (byte sign : bytes) {
            plain &= sign > 0;
        }
        CHECKS.holds("signs are 1 to 127", plain);
    }
}
