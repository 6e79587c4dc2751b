import java.io.IOException;
import java.lang.reflect.Constructor;
import java.lang.reflect.Field;
import java.lang.reflect.Method;
import java.lang.reflect.Modifier;
import java.nio.file.Files;
import java.nio.file.Path;
import java.util.Set;
import java.util.TreeSet;

/** The face of the class, and what ../shared/LANGUAGE.md rules out, as far as a look at the source tells it. */
public final class LanguageTest {
    private static final String FACE = "clear/0 compile/0 end/1 fault/1 feed/5 image/2 keep/1 load/0 look/1 out/1 patch/3 "
        + "run/1 start/2 type/2 verify/0 where/1";

    public static void main(String[] args) throws IOException {
        Bench b = new Bench("LanguageTest");
        face(b);
        inside(b);
        source(b);
        b.end();
    }

    private static void face(Bench b) {
        Set<String> found = new TreeSet<>();
        for (Method m : ClassMill.class.getDeclaredMethods()) {
            if (Modifier.isPublic(m.getModifiers())) {
                found.add(m.getName() + "/" + m.getParameterCount());
            } else {
                b.due(m + " is private", Modifier.isPrivate(m.getModifiers()), true);
            }
        }
        b.due("face " + found, String.join(" ", found).equals(FACE), true);
        for (Field f : ClassMill.class.getDeclaredFields()) {
            boolean open = !Modifier.isPrivate(f.getModifiers());
            b.due(f + " is private", open, f.getName().equals("NONE"));
        }
        for (Constructor<?> c : ClassMill.class.getDeclaredConstructors()) {
            b.due(c.toString(), Modifier.isPublic(c.getModifiers()) && c.getParameterCount() == 0, true);
        }
        b.due("final", Modifier.isFinal(ClassMill.class.getModifiers()), true);
    }

    private static void inside(Bench b) {
        Set<String> names = new TreeSet<>();
        for (Method m : ClassMill.class.getMethods()) {
            names.add(m.getName());
        }
        for (Class<?> c : ClassMill.class.getDeclaredClasses()) {
            b.due(c + " is static", Modifier.isStatic(c.getModifiers()), true);
            b.due(c + " is inside alone", Modifier.isPublic(c.getModifiers()) || Modifier.isProtected(c.getModifiers()), false);
            int fields = 0;
            for (Field f : c.getDeclaredFields()) {
                boolean isStatic = Modifier.isStatic(f.getModifiers());
                fields += isStatic ? 0 : 1;
                b.due(f + " is final", isStatic && !Modifier.isFinal(f.getModifiers()), false);
            }
            b.due(c + " has few fields: " + fields, fields <= 22, true);
            for (Method m : c.getDeclaredMethods()) {
                b.due(m + " bears a name of its own", names.contains(m.getName()), false);
                b.due(m + " takes at most seven", m.getParameterCount() <= 7, true);
            }
        }
        b.due("classes", ClassMill.class.getDeclaredClasses().length <= 12, true);
    }

    private static void source(Bench b) throws IOException {
        String text = Files.readString(Path.of("src/main/java/ClassMill.java"));
        String bare = text.replaceAll("(?s)/\\*.*?\\*/", " ").replaceAll("//[^\\n]*", " ").replaceAll("\"[^\"\\n]*\"", "\"\"")
            .replaceAll("'(\\\\.|[^'])'", "0");
        String[] words = {"throw", "throws", "try", "catch", "synchronized", "assert", "instanceof", "Exact", "System\\.(?!arraycopy)",
            "Arrays\\.(?!copyOf\\(|copyOfRange\\(|fill\\()", "Integer\\.", "Long\\.", "->", "::", "\\+ *\"\"", "\"\" *\\+", "equals", "hashCode",
            "toString", "@", "protected", "double", "float", "volatile", "Object ", "new [A-Z][A-Za-z]*\\([^)]*\\) *\\{", "static *\\{"};
        for (String word : words) {
            String whole = Character.isLetter(word.charAt(0)) ? "\\b" + word + (Character.isLetter(word.charAt(word.length() - 1)) ? "\\b" : "") : word;
            b.due("in the source: " + word, java.util.regex.Pattern.compile(whole).matcher(bare).find(), false);
        }
        int imports = bare.split("\\bimport\\b").length - 1;
        b.due("imports", imports, 1);
        b.due("import", bare.contains("import java.util.Arrays;"), true);
        b.due("package", bare.contains("package "), false);
    }
}
