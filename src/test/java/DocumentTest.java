import java.io.IOException;
import java.nio.file.Files;
import java.nio.file.Path;
import java.util.ArrayList;
import java.util.List;
import java.util.regex.Matcher;
import java.util.regex.Pattern;
import java.util.stream.Stream;

/**
 * Each sentence of the document is one that a test names, from "Description" on to "Not promised": headings, signatures,
 * what is told of a parameter, and what the document says of itself stand aside. The SAMPLES are compared with the document itself.
 */
public final class DocumentTest {
  private static final Pattern NAMED = Pattern.compile("Checks\\.sentence\\(((?:\\s*\\+?\\s*\"(?:\\\\.|[^\"\\\\])*\")+)\\)");
  private static final Pattern QUOTED = Pattern.compile("\"((?:\\\\.|[^\"\\\\])*)\"");
  private static final Pattern SAMPLE = Pattern.compile("\n  ([0-7]): ((?:.*?) \\})(?=\n)");

  /** What stands in the document that is a sentence: a line of a paragraph, of a bullet for what is asked, of a throw. */
  private static String sentences(String document) {
    StringBuilder all = new StringBuilder();
    String from = document.substring(document.indexOf("\n## Description"), document.indexOf("\n## Not promised"));
    for (String line : from.split("\n")) {
      boolean isSignature = line.startsWith("`") && line.endsWith("`");
      boolean isHeading = line.startsWith("#") || line.startsWith("----") || line.matches("[1-7]\\. [A-Z][a-z ]*");
      boolean isParameter = line.startsWith("- `") && !line.startsWith("- `what`");
      boolean isSample = line.matches("  [0-7]: .*");
      boolean isOfItself = line.equals("The constructor and the methods follow, a promise each: the signature, then what it does.");
      if (!isSignature && !isHeading && !isParameter && !isSample && !isOfItself) {
        all.append(line).append('\n');
      }
    }
    return all.toString();
  }

  private static List<String> named() throws IOException {
    List<String> all = new ArrayList<>();
    try (Stream<Path> files = Files.list(Path.of("src/test/java"))) {
      for (Path file : files.toList()) {
        Matcher m = NAMED.matcher(Files.readString(file));
        while (m.find()) {
          StringBuilder words = new StringBuilder();
          Matcher part = QUOTED.matcher(m.group(1));
          while (part.find()) {
            words.append(part.group(1).replace("\\\"", "\"").replace("\\\\", "\\"));
          }
          all.add(words.toString());
        }
      }
    }
    return all;
  }

  private static void eachSentenceIsNamed(String document) throws IOException {
    String text = sentences(document).replaceAll("\\s+", " ");
    boolean[] isNamed = new boolean[text.length()];
    for (String words : named()) {
      String plain = words.replaceAll("\\s+", " ").trim();
      for (int at = text.indexOf(plain); at >= 0; at = text.indexOf(plain, at + 1)) {
        for (int i = 0; i < plain.length(); i++) {
          isNamed[at + i] = true;
        }
      }
    }
    int from = 0;
    for (int i = 0; i <= text.length(); i++) {
      if (i == text.length() || isNamed[i]) {
        String left = text.substring(from, i).trim();
        Checks.due("a sentence that no test names", left.matches("[-.;:, ]*") ? "" : left, "");
        from = i + 1;
      }
    }
  }

  private static void samples(String document) {
    Matcher m = SAMPLE.matcher(document.substring(document.indexOf("\n7. Samples")));
    int many = 0;
    while (m.find()) {
      Pagekernel x = new Pagekernel();
      int k = Integer.parseInt(m.group(1));
      Checks.due("which one", k, many);
      Checks.due("sample(" + k + ")", x.sample(k % 4, k), m.group(2).split(" ").length);
      Checks.due("its text", x.text(k % 4), m.group(2));
      many++;
    }
    Checks.due("SAMPLES", many, 8);
  }

  public static void main(String[] arguments) throws IOException {
    String document = Files.readString(Path.of("../shared/DOC.md"));
    eachSentenceIsNamed(document);
    samples(document);
    Checks.end();
  }
}
