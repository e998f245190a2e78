import java.io.IOException;
import java.nio.file.Files;
import java.nio.file.Path;
import java.util.List;
import java.util.regex.Matcher;
import java.util.regex.Pattern;

/** What of LANGUAGE.md can be seen in the source by its words alone. */
public final class LanguageTest {
    public static void main(String[] args) throws IOException {
        String source = Files.readString(Path.of("src/main/java/SeatedByDebts.java"));
        String code = source.replaceAll("(?s)/\\*.*?\\*/", "").replaceAll("//[^\n]*", "");
        String[] forbidden = {"\\bthrow\\b", "\\bthrows\\b", "\\btry\\b", "\\bcatch\\b", "\\bsynchronized\\b", "\\bassert\\b", "->", "::", "Exact\\b", "\\bprotected\\b",
            "static \\{", "\\bpackage\\b", "\\bequals\\b", "\\bhashCode\\b", "\\btoString\\b", "\\bThread\\b", "\\bSystem\\.(?!arraycopy)", "\\bRandom\\b", "\\bdouble\\b", "\\bfloat\\b"};
        for (String word : forbidden) Due.is("uses of " + word, Pattern.compile(word).matcher(code).results().count(), 0);
        Due.is("signs beyond 127", source.chars().filter(c -> c > 127).count(), 0);
        Due.is("imports other than Arrays", Pattern.compile("\\bimport (?!java\\.util\\.Arrays;)").matcher(code).results().count(), 0);
        Due.is("static fields that are not final", Pattern.compile("static (?!final)[\\w\\[\\]]+ \\w+( =|;)").matcher(code).results().count(), 0);
        Due.is("classes that are not static", Pattern.compile("private (?!static )[a-z ]*class ").matcher(code).results().count(), 0);
        Due.is("classes, twelve at most", Pattern.compile("\\bclass ").matcher(code).results().count() <= 12 ? 1 : 0, 1);
        names(code);
        lengths(code);
        Due.end("LanguageTest");
    }

    private static void names(String code) {
        List<String> face = Pattern.compile("\n    public \\w+ (\\w+)\\(").matcher(code).results().map(r -> r.group(1)).toList();
        Due.is("methods of the face", face.size(), 26);
        Matcher m = Pattern.compile("\n +((?:private |static |final )*)[\\w\\[\\]]+ (\\w+)\\(([^)]*)\\) \\{").matcher(code);
        while (m.find()) {
            boolean clash = face.contains(m.group(2));
            Due.is(m.group(2) + " bears a name of the face", clash ? 1 : 0, 0);
            Due.is(m.group(2) + " takes seven at most", m.group(3).split(",").length <= 7 ? 1 : 0, 1);
        }
    }

    private static void lengths(String code) {
        String header = "";
        int lines = 0;
        for (String line : code.split("\n")) {
            lines++;
            if (line.matches(" {4,8}(?!if |for |while |switch )\\w.*\\) \\{")) {
                header = line;
                lines = 1;
            }
            String indent = " ".repeat(header.length() - header.stripLeading().length());
            if (line.equals(indent + "}") && !header.isEmpty()) {
                Due.is("a method is short:" + header, lines <= 60 ? 1 : 0, 1);
                header = "";
            }
        }
    }
}
