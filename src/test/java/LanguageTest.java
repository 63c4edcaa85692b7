import java.nio.file.Files;
import java.nio.file.Path;
import java.util.List;
import java.util.regex.Matcher;
import java.util.regex.Pattern;

/** Those rules of LANGUAGE.md that can be seen in the text of the class. */
public final class LanguageTest {
    public static void main(String[] args) throws Exception {
        String text = Files.readString(Path.of("src/main/java/SignCharts.java"));
        String code = text.replaceAll("(?s)/\\*.*?\\*/", "").replaceAll("//[^\n]*", "");
        noneOf(code, List.of("\\bthrow\\b", "\\bthrows\\b", "\\btry\\b", "\\bcatch\\b", "\\bassert\\b",
            "\\bsynchronized\\b", "->", "::", "static\\s*\\{", "\\bpackage\\b", "\\bSystem\\.(?!arraycopy)",
            "\\bRandom\\b", "\\bThread\\b", "\\w+Exact\\b", "\\bprotected\\b", "@\\w+"));
        imports(code);
        methods(code);
        Due.end();
    }

    private static void noneOf(String code, List<String> patterns) {
        for (String pattern : patterns) {
            Due.holds("none of " + pattern, !Pattern.compile(pattern).matcher(code).find());
        }
    }

    private static void imports(String code) {
        Matcher m = Pattern.compile("import ([\\w.]+);").matcher(code);
        while (m.find()) {
            Due.holds(m.group(1), List.of("java.util.ArrayList", "java.util.List", "java.util.Arrays")
                .contains(m.group(1)));
        }
    }

    /** Each method is short, takes few parameters, and bears no public one's name unless it is it. */
    private static void methods(String code) {
        List<String> face = List.of("canvas", "scale", "cut", "fit", "place", "value", "step", "tick",
            "series", "style", "point", "gap", "drop", "about", "count", "five", "at", "shown", "hit",
            "inked", "digest", "label", "labelled", "legend", "told");
        Matcher m = Pattern.compile("(?m)^( +)((?:public |private |static )*)"
            + "(?:int|long|boolean|void|Series|Scale) (\\w+)\\(([^)]*)\\) \\{$").matcher(code);
        int found = 0;
        while (m.find()) {
            found++;
            int end = code.indexOf("\n" + m.group(1) + "}", m.end());
            long lines = code.substring(m.start(), end).lines().count();
            Due.holds(m.group(3) + " is short", lines <= 60);
            Due.holds(m.group(3) + " takes few", m.group(4).split(",").length <= 7);
            Due.holds(m.group(3) + " has a name of its own",
                m.group(2).contains("public") == face.contains(m.group(3)));
        }
        Due.holds("methods were found", found > 60);
    }
}
