import java.lang.reflect.Constructor;
import java.lang.reflect.Field;
import java.lang.reflect.Member;
import java.lang.reflect.Method;
import java.lang.reflect.Modifier;
import java.nio.file.Files;
import java.nio.file.Path;
import java.util.ArrayList;
import java.util.Collections;
import java.util.List;
import java.util.regex.Matcher;
import java.util.regex.Pattern;

/** The document's public face, and what of LANGUAGE.md can be read off the file. Run from the project's root. */
public final class FaceTest {
    private static final String I = "IndexOutOfBoundsException";
    private static final String A = "IllegalArgumentException";
    private static final String S = "IllegalStateException";

    private static final String[] FACE = {
        "int asset() " + S,
        "int bone(int, int) " + I + ", " + S,
        "int key(int, int, int, int, int) " + I + ", " + A + ", " + S,
        "boolean unkey(int, int, int) " + I + ", " + A,
        "int publish(int) " + I + ", " + S,
        "int pose(int, int, int, int) " + I + ", " + A,
        "int poseAnew(int, int, int, int) " + I + ", " + A,
        "int ofAsset(int, int) " + I,
        "int scene(int) " + A + ", " + S,
        "int cast(int, int, int, int, int) " + I + ", " + A,
        "int cut(int, int, int) " + I + ", " + A + ", " + S,
        "int note(int, int) " + I + ", " + S,
        "int settle(int) " + I + ", " + S,
        "int ofNote(int, int) " + I,
        "int render(int) " + I,
        "boolean renderOne(int, int) " + I,
        "int needs(int) " + I,
        "int mixes(int) " + I,
        "int ofFrame(int, int, int) " + I,
        "int kept(int, int, int) " + I,
        "int count(int) " + A,
    };

    // Words and signs that the rules leave out, each as a pattern over the code without comments and texts.
    private static final String[] RULED_OUT = {
        "\\bimport\\b", "\\bpackage\\b", "->", "::", "\\bsynchronized\\b", "\\bassert\\b", "\\bfinally\\b",
        "\\btry\\b", "\\bcatch\\b", "\\w+Exact\\b", "\\bSystem\\.(?!arraycopy)", "\\bequals\\b", "\\bhashCode\\b",
        "\\btoString\\b", "\\bfloat\\b", "\\bdouble\\b", "\\bObject\\b", "\\[\\]\\[\\]\\[\\]",
        "\\bstatic\\s*\\{", "\\bwhile\\s*\\(\\s*true\\s*\\)", "\\bfor\\s*\\(\\s*;\\s*;",
    };

    public static void main(String[] args) throws Exception {
        constants();
        members();
        privateNames();
        source();
        Check.end();
    }

    private static void constants() {
        Check.due("NONE", -1, () -> PegbarBarn.NONE);
        Check.due("HOLD", 0, () -> PegbarBarn.HOLD);
        Check.due("EVEN", 1, () -> PegbarBarn.EVEN);
        Check.due("SLOW", 2, () -> PegbarBarn.SLOW);
    }

    private static boolean isOpen(Member member) {
        return !Modifier.isPrivate(member.getModifiers()) && !member.isSynthetic();
    }

    private static void members() {
        Class<?> c = PegbarBarn.class;
        Check.isTrue("public", Modifier.isPublic(c.getModifiers()));
        Check.isTrue("final", Modifier.isFinal(c.getModifiers()));
        List<String> want = new ArrayList<>(List.of(FACE));
        List<String> got = new ArrayList<>();
        for (Method m : c.getDeclaredMethods()) {
            if (isOpen(m)) {
                Check.isTrue(m + " is public", Modifier.isPublic(m.getModifiers()));
                got.add(signature(m));
            }
        }
        Collections.sort(want);
        Collections.sort(got);
        Check.due("open methods", want, () -> got);
        List<String> fields = new ArrayList<>();
        for (Field f : c.getDeclaredFields()) {
            if (isOpen(f)) {
                fields.add(Modifier.toString(f.getModifiers()) + " " + f.getName());
            }
            boolean constant = Modifier.isFinal(f.getModifiers()) && f.getType() == int.class;
            Check.isTrue(f + " is no static state", !Modifier.isStatic(f.getModifiers()) || constant);
        }
        Collections.sort(fields);
        String s = "public static final ";
        Check.due("open fields", List.of(s + "EVEN", s + "HOLD", s + "NONE", s + "SLOW"), () -> fields);
        Constructor<?>[] constructors = c.getDeclaredConstructors();
        Check.due("constructors", 1, () -> constructors.length);
        Check.due("constructor", "public PegbarBarn()", () -> constructors[0].toString());
        Check.isTrue("at most 12 classes", c.getDeclaredClasses().length < 12);
    }

    private static String signature(Method m) {
        StringBuilder b = new StringBuilder();
        b.append(m.getReturnType().getSimpleName()).append(' ').append(m.getName()).append('(');
        b.append(names(m.getParameterTypes())).append(") ").append(names(m.getExceptionTypes()));
        return b.toString();
    }

    private static String names(Class<?>[] classes) {
        List<String> names = new ArrayList<>();
        for (Class<?> c : classes) {
            names.add(c.getSimpleName());
        }
        return String.join(", ", names);
    }

    private static void privateNames() {
        List<String> open = new ArrayList<>();
        for (String line : FACE) {
            open.add(line.replaceAll("^\\w+ (\\w+)\\(.*", "$1"));
        }
        List<Class<?>> classes = new ArrayList<>(List.of(PegbarBarn.class.getDeclaredClasses()));
        for (Class<?> c : classes) {
            Check.isTrue(c + " is static", Modifier.isStatic(c.getModifiers()));
            Check.isTrue(c + " is not public", !Modifier.isPublic(c.getModifiers()));
        }
        classes.add(PegbarBarn.class);
        for (Class<?> c : classes) {
            List<String> seen = new ArrayList<>();
            for (Method m : c.getDeclaredMethods()) {
                boolean face = c == PegbarBarn.class && isOpen(m);
                Check.isTrue(m + " does not bear a public name", face || !open.contains(m.getName()));
                Check.isTrue(m + " is not overloaded", !seen.contains(m.getName()));
                Check.isTrue(m + " takes at most seven", m.getParameterCount() <= 7);
                seen.add(m.getName());
            }
        }
    }

    private static void source() throws Exception {
        String text = Files.readString(Path.of("src/main/java/PegbarBarn.java"));
        Check.isTrue("signs 1 to 127", text.chars().allMatch(c -> c >= 1 && c <= 127));
        String code = text.replaceAll("(?s)/\\*.*?\\*/", "").replaceAll("//[^\n]*", "").replaceAll("\"[^\"\n]*\"", "\"\"");
        for (String pattern : RULED_OUT) {
            Matcher m = Pattern.compile(pattern).matcher(code);
            Check.due("the file holds " + pattern, "nothing", () -> m.find() ? m.group() : "nothing");
        }
        Matcher thrown = Pattern.compile("throw new (\\w+)\\(").matcher(code);
        while (thrown.find()) {
            String name = thrown.group(1);
            Check.isTrue("throws " + name, List.of(I, A, S).contains(name));
        }
    }
}
