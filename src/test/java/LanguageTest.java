import java.nio.charset.StandardCharsets;
import java.nio.file.Files;
import java.nio.file.Path;
import java.util.List;
import java.util.regex.Matcher;
import java.util.regex.Pattern;

/** What ../shared/LANGUAGE.md forbids and a look at the program's text can find. Run from the project's root. */
public final class LanguageTest {
    private static final String[] FORBIDDEN = {
        "\\b(throw|throws|try|catch|finally|synchronized|assert|instanceof|volatile|native|protected|package)\\b",
        "->", "::", "@", "\\bimport\\b", "\\bjava\\.", "\\bThread\\b", "\\bSystem\\.(?!arraycopy)", "\\bRuntime\\b",
        "\\bRandom\\b", "Exact\\b", "\\.equals\\b", "\\bhashCode\\b", "\\btoString\\b", "\\bgetClass\\b",
        "\\bwhile\\s*\\(\\s*true", "for\\s*\\(\\s*;", "\\bstatic\\s*\\{", "\\b(double|float)\\b", "\\bpublic\\b.*\\bstatic\\b",
        "\\b(Integer|Long)\\.(?!bitCount)", "\\bMath\\.(?!min|max)"
    };
    private static final Pattern METHOD = Pattern.compile("^( {4}| {8})(?:private |public )?(?:static )?\\w[\\w\\[\\]]* (\\w+)\\(([^)]*)\\) \\{$");

    private static int wrong = 0;

    private static void fault(String what) {
        wrong++;
        System.out.println("against the language: " + what);
    }

    public static void main(String[] args) throws Exception {
        Path file = Path.of("src/main/java/WithoutThem.java");
        String whole = Files.readString(file, StandardCharsets.ISO_8859_1);
        for (int i = 0; i < whole.length(); i++) {
            if (whole.charAt(i) > 126) {
                fault("a sign above 126 at " + i);
            }
        }
        String code = whole.replaceAll("(?s)/\\*.*?\\*/", "").replaceAll("//[^\n]*", "");
        for (String forbidden : FORBIDDEN) {
            Matcher m = Pattern.compile(forbidden).matcher(code);
            if (m.find()) {
                fault("'" + m.group() + "' found by " + forbidden);
            }
        }
        methods(List.of(whole.split("\n")));
        indices(code);
        makings(code);
        System.out.println(wrong == 0 ? "the language is kept" : wrong + " rules are not kept");
        if (wrong != 0) {
            System.exit(1);
        }
    }

    private static void methods(List<String> lines) {
        int found = 0;
        for (int i = 0; i < lines.size(); i++) {
            Matcher m = METHOD.matcher(lines.get(i));
            if (!m.find()) {
                continue;
            }
            found++;
            int length = 1;
            while (i + length < lines.size() && !lines.get(i + length).equals(m.group(1) + "}")) {
                length++;
            }
            if (length > 60) {
                fault(m.group(2) + " has " + length + " lines");
            }
            if (m.group(3).split(",").length > 7) {
                fault(m.group(2) + " has more than seven parameters");
            }
        }
        if (found < 60) {
            fault("only " + found + " methods were found: the look at them is not as it was");
        }
    }

    /** An element is read or written only in a line that tests its place, or just under one. */
    private static void indices(String code) {
        String[] lines = code.split("\n");
        for (int i = 0; i < lines.length; i++) {
            if (Pattern.compile("\\w\\[[^\\]]+\\]").matcher(lines[i].replaceAll("new int\\[\\w+\\]", "")).find()) {
                String near = lines[i] + (i > 0 ? lines[i - 1] : "");
                if (!near.contains(".length")) {
                    fault("an index without a test near it: " + lines[i].trim());
                }
            }
        }
    }

    /** Objects and arrays are made once with the object alone: in its constructor and by fields. */
    private static void makings(String code) {
        for (String line : code.split("\n")) {
            boolean ofField = line.trim().matches("(private )?final int\\[\\] \\w+ = new int\\[\\w+\\];");
            boolean ofConstructor = line.matches(" {8}\\w+ = new \\w+(\\(\\)|\\[\\w+\\]);");
            if (line.contains("new ") && !ofField && !ofConstructor) {
                fault("made in a call: " + line.trim());
            }
        }
    }
}
