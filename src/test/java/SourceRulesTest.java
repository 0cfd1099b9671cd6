import java.io.IOException;
import java.io.InputStream;
import java.lang.reflect.Constructor;
import java.lang.reflect.Field;
import java.lang.reflect.Method;
import java.lang.reflect.Modifier;
import java.nio.charset.StandardCharsets;
import java.nio.file.Files;
import java.nio.file.Path;
import java.util.ArrayList;
import java.util.List;
import java.util.Set;
import java.util.TreeSet;
import java.util.regex.Matcher;
import java.util.regex.Pattern;

/** The rules of LANGUAGE.md that can be read off the source, and the face that the document tells. */
public final class SourceRulesTest {
    private static final String[] FORBIDDEN = {"throw", "try", "catch", "synchronized", "assert", "->", "::",
        "System.out", "System.exit", "Random", "Thread", "nanoTime", "currentTime", "@"};
    /** What the class files may name of the library; the program needs no more than this of what the rules allow. */
    private static final Set<String> LIBRARY = Set.of("java/lang/Object", "java/lang/Math", "java/lang/Integer",
        "java/lang/Long", "java/lang/String", "java/lang/StringBuilder", "java/util/Arrays", "java/util/ArrayList",
        "java/util/List", "java/util/Iterator");

    private SourceRulesTest() {
    }

    public static void main(String[] args) throws IOException {
        String source = Files.readString(Path.of("src/main/java/BentPictures.java"));
        String code = source.replaceAll("(?s)/\\*.*?\\*/", "").replaceAll("//[^\n]*", "");
        for (String word : FORBIDDEN) {
            String border = Character.isLetter(word.charAt(0)) ? "\\b" : "";
            boolean found = Pattern.compile(border + Pattern.quote(word) + border).matcher(code).find();
            Due.is("6: the source has " + word, found ? 1 : 0, 0);
        }
        Due.is("4: the source has a function that ends in Exact", code.contains("Exact(") ? 1 : 0, 0);
        Due.is("3: signs 1 to 127 alone", source.chars().allMatch(sign -> sign > 0 && sign < 128) ? 1 : 0, 1);
        imports(code);
        library();
        classes(code);
        methods(code);
        face();
        Due.end();
    }

    private static void imports(String code) {
        Matcher line = Pattern.compile("import ([^;]*);").matcher(code);
        while (line.find()) {
            Due.is("4: import of " + line.group(1), line.group(1).equals("java.util.Arrays") ? 1 : 0, 1);
        }
    }

    /** Names of classes stand in a class file as they are; a descriptor has an L ahead of them. */
    private static void library() throws IOException {
        Pattern name = Pattern.compile("(?:java|javax|jdk|sun|com)/[\\w/$]+");
        List<Class<?>> all = new ArrayList<>(List.of(BentPictures.class.getDeclaredClasses()));
        all.add(BentPictures.class);
        for (Class<?> one : all) {
            try (InputStream file = one.getResourceAsStream(one.getName() + ".class")) {
                Matcher found = name.matcher(new String(file.readAllBytes(), StandardCharsets.ISO_8859_1));
                while (found.find()) {
                    Due.is("4: " + one + " uses " + found.group(), LIBRARY.contains(found.group()) ? 1 : 0, 1);
                }
            }
        }
    }

    private static void classes(String code) {
        int inside = 0;
        for (String line : code.split("\n")) {
            if (line.matches(".*\\b(class|interface|record|enum) [A-Z].*") && !line.contains("public final class")) {
                inside++;
                Due.is("2: private and static: " + line.trim(), line.contains("private static") ? 1 : 0, 1);
            }
        }
        Due.is("11: twelve classes at most", inside + 1 <= 12 ? 1 : 0, 1);
    }

    private static void methods(String code) {
        TreeSet<String> open = new TreeSet<>();
        for (Method method : BentPictures.class.getDeclaredMethods()) {
            if (Modifier.isPublic(method.getModifiers())) {
                open.add(method.getName());
            }
        }
        for (Class<?> inside : BentPictures.class.getDeclaredClasses()) {
            for (Method method : inside.getDeclaredMethods()) {
                Due.is("1: a name of the face inside: " + method, open.contains(method.getName()) ? 1 : 0, 0);
                Due.is("11: seven parameters at most: " + method, method.getParameterCount() <= 7 ? 1 : 0, 1);
            }
            int fields = 0;
            for (Field field : inside.getDeclaredFields()) {
                fields += Modifier.isStatic(field.getModifiers()) ? 0 : 1;
            }
            Due.is("11: twenty fields at most: " + inside, fields <= 20 ? 1 : 0, 1);
        }
        int length = 0;
        for (String line : code.split("\n")) {
            boolean begins = line.matches("( {4}| {8})\\S.*\\) \\{");
            length = begins ? 0 : length + 1;
            if (line.matches("( {4}| {8})\\}")) {
                Due.is("11: sixty lines at most, up to " + length, length <= 60 ? 1 : 0, 1);
            }
        }
    }

    private static void face() {
        Due.is("1: public and final", BentPictures.class.getModifiers(), Modifier.PUBLIC | Modifier.FINAL);
        int open = 0;
        for (Method method : BentPictures.class.getDeclaredMethods()) {
            boolean isPublic = Modifier.isPublic(method.getModifiers());
            open += isPublic ? 1 : 0;
            Due.is("1: public or private: " + method, isPublic || Modifier.isPrivate(method.getModifiers()) ? 1 : 0, 1);
        }
        Due.is("1: methods of the face", open, 35);
        TreeSet<String> constants = new TreeSet<>();
        for (Field field : BentPictures.class.getDeclaredFields()) {
            boolean isPublic = Modifier.isPublic(field.getModifiers());
            if (isPublic) {
                constants.add(field.getName());
            }
            Due.is("1: public or private: " + field, isPublic || Modifier.isPrivate(field.getModifiers()) ? 1 : 0, 1);
            boolean isStatic = Modifier.isStatic(field.getModifiers());
            Due.is("5: final: " + field, !isStatic || Modifier.isFinal(field.getModifiers()) ? 1 : 0, 1);
        }
        String due = "[FULL, LOST, NONE, OUTSIDE, SPENT, STATE, UNKNOWN]";
        Due.is("1: constants " + constants, constants.toString().equals(due) ? 1 : 0, 1);
        Constructor<?>[] makers = BentPictures.class.getDeclaredConstructors();
        Due.is("1: constructors", makers.length, 1);
        Due.is("1: the constructor takes nothing", makers[0].getParameterCount(), 0);
        int[] values = {BentPictures.UNKNOWN, BentPictures.OUTSIDE, BentPictures.STATE, BentPictures.FULL,
            BentPictures.SPENT, BentPictures.NONE};
        int[] dueValues = {-1, -2, -3, -4, -6, -9};
        for (int k = 0; k < values.length; k++) {
            Due.is("constant " + k, values[k], dueValues[k]);
        }
    }
}
