import java.lang.reflect.Constructor;
import java.lang.reflect.Field;
import java.lang.reflect.Method;
import java.lang.reflect.Modifier;
import java.nio.file.Files;
import java.nio.file.Path;
import java.util.ArrayList;
import java.util.List;
import java.util.Set;
import java.util.TreeSet;
import java.util.regex.Matcher;
import java.util.regex.Pattern;

/** The face of the document, and the words that LANGUAGE.md leaves out; RuleTest has its other rules. */
public final class FormTest {
    private static int wrong = 0;

    private static void hold(boolean is, String what) {
        if (!is) {
            wrong++;
            System.out.println("FormTest: " + what);
        }
    }

    public static void main(String[] args) throws Exception {
        String source = Files.readString(Path.of(args[0]));
        face(Files.readString(Path.of(args[1])));
        classes();
        words(bare(source));
        System.out.println("FormTest: " + wrong + " wrong");
        if (wrong != 0) {
            System.exit(1);
        }
    }

    /** Without comments and the insides of texts. */
    private static String bare(String source) {
        return source.replaceAll("(?s)/\\*.*?\\*/", "").replaceAll("//[^\n]*", "")
            .replaceAll("\"[^\"\n]*\"", "\"\"").replaceAll("'[^'\n]'", "' '");
    }

    private static void face(String document) throws Exception {
        String block = document.split("```java\n")[1].split("```")[0];
        Set<String> want = new TreeSet<>();
        Matcher line = Pattern.compile("    public (int|long) (\\w+)\\(([^)]*)\\);").matcher(block);
        while (line.find()) {
            String types = line.group(3).replaceAll(" \\w+(,|$)", "$1").replace(" ", "");
            want.add(line.group(1) + " " + line.group(2) + "(" + types + ")");
        }
        Set<String> got = new TreeSet<>();
        Set<String> names = new TreeSet<>();
        for (Method method : LateGlass.class.getDeclaredMethods()) {
            if (Modifier.isPublic(method.getModifiers())) {
                List<String> types = new ArrayList<>();
                for (Class<?> type : method.getParameterTypes()) {
                    types.add(type.getName());
                }
                got.add(method.getReturnType() + " " + method.getName() + "(" + String.join(",", types) + ")");
                names.add(method.getName());
            }
        }
        hold(want.equals(got), "the face is " + got + ", not " + want);
        hold(want.size() > 40, "the document's face was not read");
        for (Class<?> type : all()) {
            for (Method method : type.getDeclaredMethods()) {
                boolean ours = type != LateGlass.class || !Modifier.isPublic(method.getModifiers());
                hold(!ours || !names.contains(method.getName()), "bears a public name: " + method);
                hold(!ours || type != LateGlass.class || Modifier.isPrivate(method.getModifiers()), "rule 1: " + method);
            }
        }
        Field none = LateGlass.class.getDeclaredField("NONE");
        hold(none.getInt(null) == -1 && Modifier.isPublic(none.getModifiers()), "NONE");
        Constructor<?>[] makers = LateGlass.class.getDeclaredConstructors();
        hold(makers.length == 1 && Modifier.isPublic(makers[0].getModifiers()), "one public constructor");
    }

    private static List<Class<?>> all() {
        List<Class<?>> all = new ArrayList<>(List.of(LateGlass.class.getDeclaredClasses()));
        all.add(LateGlass.class);
        return all;
    }

    private static void classes() {
        hold(Modifier.isFinal(LateGlass.class.getModifiers()), "final");
        for (Class<?> type : all()) {
            for (Method method : type.getDeclaredMethods()) {
                hold(!method.isSynthetic(), "rule 2: " + method);
            }
            hold(type.getDeclaredClasses().length == 0 || type == LateGlass.class, "rule 2: within " + type);
        }
    }

    private static void words(String code) {
        for (String word : List.of("throw", "throws", "try", "catch", "synchronized", "assert", "volatile", "native",
            "Thread", "Random", "Object", "equals", "hashCode", "toString", "package", "strictfp", "transient")) {
            hold(!Pattern.compile("\\b" + word + "\\b").matcher(code).find(), "rule 6: " + word);
        }
        hold(code.chars().allMatch(c -> c < 128), "signs of 7 bits alone");
        Matcher imports = Pattern.compile("import ([\\w.]+);").matcher(code);
        while (imports.find()) {
            hold(List.of("java.util.Arrays", "java.util.ArrayList", "java.util.List").contains(imports.group(1)),
                "rule 4: " + imports.group());
        }
    }
}
