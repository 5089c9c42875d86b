import java.io.IOException;
import java.lang.reflect.Constructor;
import java.lang.reflect.Field;
import java.lang.reflect.Method;
import java.lang.reflect.Modifier;
import java.nio.file.Files;
import java.nio.file.Path;
import java.util.Set;
import java.util.TreeSet;
import java.util.regex.Matcher;
import java.util.regex.Pattern;

/** What of LANGUAGE.md a machine can look at: the face, the library, words that may not stand, sizes. */
public final class LanguageTest {
    private static final Path SOURCE = Path.of("src/main/java/CrossingWords.java");
    private static final Set<String> FACE = Set.of("feed 5", "tell 1", "more 2", "law 1", "clause 1", "fault 0",
            "saying 3", "asked 2", "hour 4", "rule 2", "run 4", "open 5", "binds 3", "sure 3", "hang 2", "bears 4",
            "judge 5", "apart 4", "part 2", "write 1", "does 4", "can 5", "until 5", "lost 3", "wired 3", "image 0",
            "back 1", "count 1");
    private static int wrong = 0;

    public static void main(String[] args) throws IOException {
        face();
        inside();
        source(plain(Files.readString(SOURCE)));
        System.out.println(wrong == 0 ? "the language is kept to" : wrong + " breaches of LANGUAGE.md");
        if (wrong != 0) {
            System.exit(1);
        }
    }

    private static void check(boolean good, String what) {
        if (!good) {
            wrong++;
            System.out.println("LANGUAGE.md: " + what);
        }
    }

    private static void face() {
        Class<?> c = CrossingWords.class;
        check(Modifier.isPublic(c.getModifiers()) && Modifier.isFinal(c.getModifiers()), "rule 1: public and final");
        Set<String> seen = new TreeSet<>();
        for (Method m : c.getDeclaredMethods()) {
            if (Modifier.isPublic(m.getModifiers())) {
                seen.add(m.getName() + " " + m.getParameterCount());
            } else {
                check(Modifier.isPrivate(m.getModifiers()), "rule 1: visible method " + m);
                check(!faceNames().contains(m.getName()), "rule 1: bears the name of a public method: " + m);
            }
        }
        check(seen.equals(new TreeSet<>(FACE)), "rule 1: the face is " + seen);
        for (Field f : c.getDeclaredFields()) {
            boolean constant = f.getName().equals("NONE") && Modifier.isPublic(f.getModifiers());
            check(constant || Modifier.isPrivate(f.getModifiers()), "rule 1: visible field " + f);
        }
        check(c.getDeclaredConstructors().length == 1, "rule 1: one constructor");
    }

    private static Set<String> faceNames() {
        Set<String> names = new TreeSet<>();
        for (String one : FACE) {
            names.add(one.substring(0, one.indexOf(' ')));
        }
        return names;
    }

    private static void inside() {
        Set<String> names = faceNames();
        Class<?>[] classes = CrossingWords.class.getDeclaredClasses();
        check(classes.length < 12, "rule 11: too many classes");
        for (Class<?> c : classes) {
            check(Modifier.isStatic(c.getModifiers()), "rule 2: not static: " + c);
            for (Method m : c.getDeclaredMethods()) {
                check(!names.contains(m.getName()), "rule 1: bears the name of a public method: " + m);
                check(m.getParameterCount() <= 7, "rule 11: too many parameters: " + m);
            }
            for (Constructor<?> m : c.getDeclaredConstructors()) {
                check(m.getParameterCount() <= 7, "rule 11: too many parameters: " + m);
            }
            fields(c);
        }
        fields(CrossingWords.class);
    }

    private static void fields(Class<?> c) {
        int many = 0;
        for (Field f : c.getDeclaredFields()) {
            if (Modifier.isStatic(f.getModifiers())) {
                check(Modifier.isFinal(f.getModifiers()), "rule 5: not final: " + f);
            } else {
                many++;
            }
        }
        check(many <= 20, "rule 11: too many fields in " + c);
    }

    /** The source without what stands in comments and constants. */
    private static String plain(String source) {
        Matcher m = Pattern.compile("/\\*.*?\\*/|//[^\n]*|\"(?:\\\\.|[^\"\\\\])*\"|'(?:\\\\.|[^'\\\\])+'", Pattern.DOTALL)
                .matcher(source);
        StringBuilder text = new StringBuilder();
        int from = 0;
        while (m.find()) {
            text.append(source, from, m.start()).append(m.group().replaceAll("[^\n]+", "0"));
            from = m.end();
        }
        return text.append(source.substring(from)).toString();
    }

    private static void source(String text) {
        for (String word : new String[] {"throw", "throws", "try", "catch", "finally", "synchronized", "assert",
            "package", "var", "yield", "Object", "hashCode", "toString", "System.out", "values"}) {
            check(!Pattern.compile("\\b" + Pattern.quote(word) + "\\b").matcher(text).find(), "rule 6: " + word);
        }
        check(!text.contains("->") && !text.contains("::"), "rule 2: lambda or method reference");
        check(!text.contains("Exact"), "rule 4: ..Exact");
        Matcher library = Pattern.compile("\\b(System|Arrays|Math|Integer|Long)\\.(\\w+)").matcher(text);
        Set<String> known = Set.of("System.arraycopy", "Arrays.copyOf", "Arrays.fill", "Math.min", "Math.max",
                "Integer.bitCount");
        while (library.find()) {
            check(known.contains(library.group()), "rule 4: " + library.group());
        }
        Matcher imports = Pattern.compile("\\bimport\\s+([^;]+);").matcher(text);
        while (imports.find()) {
            check(imports.group(1).equals("java.util.Arrays"), "rule 4: import " + imports.group(1));
        }
        methodLengths(text);
    }

    private static void methodLengths(String text) {
        String[] lines = text.split("\n");
        for (int i = 0; i < lines.length; i++) {
            String indent = lines[i].startsWith("        ") ? "        " : "    ";
            boolean opens = lines[i].matches(" {4}( {4})?[a-zA-Z].*\\) \\{") && !lines[i].matches(" *(if|for|while|switch).*");
            for (int j = i; opens && j < lines.length; j++) {
                if (lines[j].equals(indent + "}")) {
                    check(j - i < 60, "rule 11: long method: " + lines[i].trim());
                    break;
                }
            }
        }
    }
}
