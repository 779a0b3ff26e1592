import java.io.IOException;
import java.nio.file.Files;
import java.nio.file.Path;
import java.util.Set;
import java.util.TreeSet;
import java.util.regex.Matcher;
import java.util.regex.Pattern;

/** What LANGUAGE.md allows, as far as the text of the class tells it. The face is looked at by FaceTests. */
public final class LanguageTests {
  private static final Set<String> LIBRARY = Set.of("Math.max", "Math.min", "System.arraycopy");
  private static final Set<String> TYPES = Set.of("int", "boolean", "double");
  private static final String[] RULED_OUT = {"package", "import", "throw", "throws", "try", "catch", "finally",
    "synchronized", "assert", "native", "volatile", "transient", "strictfp", "protected", "Object", "Exception",
    "float", "yield", "var", "record", "instanceof"};
  private static final int MOST_LINES = 60, MOST_PARAMETERS = 7, MOST_CLASSES = 12, MOST_FIELDS = 20;
  private static int wrong = 0;

  private static void expect(boolean holds, String what) {
    if (!holds) {
      wrong++;
      System.out.println("language: " + what);
    }
  }

  private static boolean finds(String text, String pattern) {
    return Pattern.compile(pattern).matcher(text).find();
  }

  private static void checkWords(String code) {
    for (String word : RULED_OUT) expect(!finds(code, "\\b" + word + "\\b"), "rule 3 or 6: " + word);
    expect(!code.contains("->") && !code.contains("::"), "rule 2: a lambda or a method reference");
    expect(!finds(code, "new \\w+(\\([^()]*\\)|\\[[^\\]]*\\]) *\\{"), "an anonymous class");
    Matcher call = Pattern.compile("\\b([A-Z]\\w*\\.\\w+)\\(").matcher(code);
    while (call.find()) {
      boolean own = finds(code, "class " + call.group(1).replaceAll("\\..*", "") + "\\b");
      expect(own || LIBRARY.contains(call.group(1)), "rule 4: " + call.group(1));
    }
  }

  private static void checkStatics(String code) {
    Matcher fields = Pattern.compile("(?m)^ *((?:public|private) )?static (final )?(\\w+(?:\\[\\])?) \\w+ =").matcher(code);
    int seen = 0;
    while (fields.find()) {
      seen++;
      expect(fields.group(2) != null, "rule 5: not final: " + fields.group());
      expect(TYPES.contains(fields.group(3).replace("[]", "")), "rule 5: " + fields.group());
    }
    expect(seen > 0, "no constants are found");
    expect(!finds(code, "static *\\{"), "rule 5: a static initialiser");
  }

  private static void checkShapes(String code) {
    String[] lines = code.split("\n");
    Set<String> classes = new TreeSet<>();
    int start = -1;
    int fields = 0;
    String indent = "";
    for (int i = 0; i < lines.length; i++) {
      Matcher type = Pattern.compile("\\bclass (\\w+)").matcher(lines[i]);
      if (type.find()) {
        classes.add(type.group(1));
        fields = 0;
      }
      if (finds(lines[i], "^ +(private |public )?(final )?[A-Za-z]\\w*(\\[\\])? \\w+( = .*)?;$")
          && !finds(lines[i], "\\breturn\\b") && start < 0) {
        fields++;
        expect(fields <= MOST_FIELDS, "rule 11: fields, line " + (i + 1));
      }
      Matcher method = Pattern.compile("^( +)[\\w\\[\\] ]+\\(([^()]*)\\) \\{$").matcher(lines[i]);
      if (start < 0 && method.find()) {
        start = i;
        indent = method.group(1);
        expect(method.group(2).split(",").length <= MOST_PARAMETERS, "rule 11: parameters, line " + (i + 1));
      } else if (start >= 0 && lines[i].equals(indent + "}")) {
        expect(i - start < MOST_LINES, "rule 11: a method of " + (i - start) + " lines, line " + (start + 1));
        start = -1;
      }
    }
    expect(start < 0 && classes.size() > 1, "the methods and classes are found");
    expect(classes.size() <= MOST_CLASSES, "rule 11: classes " + classes);
  }

  public static void main(String[] args) throws IOException {
    String text = Files.readString(Path.of("src/main/java/CupEye.java"));
    expect(text.chars().allMatch(c -> c == '\n' || c >= 32 && c <= 126), "a sign that is not printable ASCII");
    // Without the comments, but with their line ends: so the lines that are told are those of the file.
    String code = Pattern.compile("(?s)/\\*.*?\\*/").matcher(text)
        .replaceAll(comment -> "\n".repeat((int) comment.group().chars().filter(c -> c == '\n').count()))
        .replaceAll("//[^\n]*", "");
    checkWords(code);
    checkStatics(code);
    checkShapes(code);
    System.out.println(wrong == 0 ? "the language is kept to" : wrong + " faults of the language");
    if (wrong != 0) {
      System.exit(1);
    }
  }
}
