import java.io.IOException;
import java.lang.reflect.Constructor;
import java.lang.reflect.Field;
import java.lang.reflect.Method;
import java.lang.reflect.Modifier;
import java.nio.file.Files;
import java.nio.file.Path;
import java.util.ArrayList;
import java.util.Arrays;
import java.util.Collections;
import java.util.List;
import java.util.regex.Matcher;
import java.util.regex.Pattern;

/** The public face, and what of ../shared/LANGUAGE.md can be seen in the text of the class. */
final class FaceTest {
    private static final Check CHECK = new Check("FaceTest");
    private static final String FACE = """
        int ask(int)
        int behind(int, int)
        int done()
        int fault()
        int first(int)
        int fits(int)
        int forget()
        int holds(int, int)
        int image(int)
        int judge(int)
        int kin(int, int, int, int)
        int lent(int, int, int)
        int oldest()
        int pause(int)
        int restore(int)
        int say(int)
        int seen(int, int, boolean)
        int sentences(int, int, int, int)
        int stay(int)
        int task(int, int, int, int)
        int tie(int, int, boolean)
        int told(int)
        int trust(int)
        int waits(int, int, int, int)
        int wipe()
        int year(int, int, int)
        long door(int, int, int, int, int)
        """;

    public static void main(String[] args) throws IOException {
        constants();
        members();
        privateNames();
        text(Files.readString(Path.of("src/main/java/TrustedPause.java")));
        CHECK.end();
    }

    private static void constants() {
        CHECK.same("UNKNOWN", TrustedPause.UNKNOWN, -1);
        CHECK.same("OUTSIDE", TrustedPause.OUTSIDE, -2);
        CHECK.same("STATE", TrustedPause.STATE, -3);
        CHECK.same("FULL", TrustedPause.FULL, -4);
        CHECK.same("NO", TrustedPause.NO, -5);
        CHECK.same("NONE", TrustedPause.NONE, -6);
        CHECK.same("GONE", TrustedPause.GONE, -1000000000000000000L);
    }

    private static void members() {
        Class<?> face = TrustedPause.class;
        CHECK.same("public final", face.getModifiers(), Modifier.PUBLIC | Modifier.FINAL);
        List<String> found = new ArrayList<>();
        for (Method m : face.getDeclaredMethods()) {
            if (Modifier.isPrivate(m.getModifiers()) || m.isSynthetic()) continue;
            CHECK.same(m.getName() + " is public alone", m.getModifiers(), Modifier.PUBLIC);
            String types = Arrays.toString(m.getParameterTypes());
            found.add(m.getReturnType() + " " + m.getName() + "(" + types.substring(1, types.length() - 1) + ")");
        }
        Collections.sort(found);
        CHECK.holds("methods " + found, String.join("\n", found).concat("\n").equals(FACE));
        int open = 0;
        for (Field f : face.getDeclaredFields()) {
            if (!Modifier.isPrivate(f.getModifiers())) open++;
        }
        CHECK.same("fields that are not private", open, 7);
        Constructor<?>[] constructors = face.getDeclaredConstructors();
        CHECK.same("constructors", constructors.length, 1);
        CHECK.same("of no parameters", constructors[0].getParameterCount(), 0);
        CHECK.same("public", constructors[0].getModifiers(), Modifier.PUBLIC);
    }

    private static void privateNames() {
        int classes = 1;
        for (Class<?> inside : TrustedPause.class.getDeclaredClasses()) {
            classes++;
            CHECK.holds(inside + " is static", Modifier.isStatic(inside.getModifiers()));
            CHECK.holds(inside + " is not public", !Modifier.isPublic(inside.getModifiers()));
            ownNames(inside);
        }
        CHECK.holds("some twelve classes", classes <= 12);
        ownNames(TrustedPause.class);
    }

    private static void ownNames(Class<?> one) {
        for (Method m : one.getDeclaredMethods()) {
            CHECK.holds(m + " takes at most seven", m.getParameterCount() <= 7);
            if (Modifier.isPublic(m.getModifiers())) continue;
            CHECK.holds(m + " has a name of its own", !FACE.contains(" " + m.getName() + "("));
        }
        int fields = 0;
        for (Field f : one.getDeclaredFields()) {
            if (!Modifier.isStatic(f.getModifiers())) fields++;
            CHECK.holds(f + " is final if static", !Modifier.isStatic(f.getModifiers()) || Modifier.isFinal(f.getModifiers()));
        }
        CHECK.holds(one + " has some twenty fields", fields <= 20);
    }

    /** Words outside the language; none of them stands in the comments either. */
    private static void text(String source) {
        String[] words = {
            "throw", "throws", "try", "catch", "synchronized", "assert", "package", "var", "System\\.(?!arraycopy)", "Exact", "native",
            "random", "Thread", "->", "::", "equals", "hashCode", "toString", "\\bnew int\\[\\]\\[\\]", "\" \\+", "\\+ \""};
        for (String word : words) {
            String bounded = word.matches("[a-z]+") ? "\\b" + word + "\\b" : word;
            Matcher matcher = Pattern.compile(bounded).matcher(source);
            CHECK.holds("no " + word + " in the class", !matcher.find());
        }
        CHECK.same("imports", source.split("\nimport |^import ").length - 1, 1);
        CHECK.holds("ASCII alone", source.chars().allMatch(c -> c == '\n' || c >= 32 && c < 127));
    }
}
