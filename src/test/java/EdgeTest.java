import java.io.IOException;
import java.nio.file.Files;
import java.nio.file.Path;
import java.util.LinkedHashMap;
import java.util.List;
import java.util.Map;
import java.util.regex.Matcher;
import java.util.regex.Pattern;

/**
 * Each sentence of the document that names a boundary case has a test of its own, which quotes it; no words
 * of the terms and promises are left that no test quotes.
 */
public final class EdgeTest {
    private static int wrong = 0;

    public static void main(String[] args) throws IOException {
        Edges edges = all();
        Map<String, String> sections = sections(Files.readString(Path.of(args[1])));
        for (String name : edges.names()) {
            String text = sections.getOrDefault(edges.placeOf(name), "");
            complain(text.contains(edges.wordsOf(name)), name + ": the document has no such words there");
            for (String complaint : edges.run(name)) {
                complain(false, name + ": " + complaint);
            }
        }
        complain(sections.size() == 49, "the document has " + sections.size() + " sections");
        sections.forEach((place, text) -> {
            String left = unquoted(edges, place, text);
            complain(left.isEmpty(), place + ": no test quotes '" + left + "'");
        });
        System.out.println("EdgeTest: " + edges.names().size() + " tests, " + edges.asked() + " answers, " + wrong
            + " wrong");
        if (wrong != 0) {
            System.exit(1);
        }
    }

    static Edges all() {
        Edges edges = new Edges();
        HouseEdges.add(edges);
        LawEdges.add(edges);
        LookEdges.add(edges);
        HuntEdges.add(edges);
        PromiseEdges.add(edges);
        return edges;
    }

    /** The names of the tests that fail, for the tool that breaks the class on purpose. */
    static List<String> failing() {
        Edges edges = all();
        return edges.names().stream().filter(name -> !isFine(edges, name)).toList();
    }

    private static boolean isFine(Edges edges, String name) {
        try {
            return edges.run(name).isEmpty();
        } catch (RuntimeException e) {
            return false;
        }
    }

    private static void complain(boolean is, String what) {
        if (!is) {
            wrong++;
            System.out.println("EdgeTest: " + what);
        }
    }

    private static Map<String, String> sections(String document) {
        Map<String, String> sections = new LinkedHashMap<>();
        String term = "(?ms)^(I|II|III|IV)\\. (.*?)(?=^(?:II|III|IV)\\. |^The constants)";
        Matcher terms = Pattern.compile(term).matcher(document);
        while (terms.find()) {
            sections.put(terms.group(1), squeezed(terms.group(2)));
        }
        Matcher promises = Pattern.compile("(?ms)^## Promise (\\d+): [^\n]*\n(.*?)(?=^## )").matcher(document);
        while (promises.find()) {
            sections.put(promises.group(1), squeezed(promises.group(2)));
        }
        return sections;
    }

    private static String squeezed(String text) {
        return text.replace("```text", "").replace("```", "").replaceAll("\\s+", " ").trim();
    }

    private static String unquoted(Edges edges, String place, String text) {
        boolean[] is = new boolean[text.length()];
        for (String name : edges.names()) {
            String words = edges.wordsOf(name);
            int at = edges.placeOf(name).equals(place) ? text.indexOf(words) : -1;
            while (at >= 0) {
                java.util.Arrays.fill(is, at, at + words.length(), true);
                at = text.indexOf(words, at + 1);
            }
        }
        StringBuilder left = new StringBuilder();
        for (int i = 0; i < is.length; i++) {
            if (!is[i]) {
                left.append(text.charAt(i));
            }
        }
        return left.toString().replaceAll("^`[^`]*`:", "").replaceAll("^[ .,:;|]+$", "");
    }
}
