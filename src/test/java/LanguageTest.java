import java.io.IOException;
import java.lang.reflect.Field;
import java.lang.reflect.Method;
import java.lang.reflect.Modifier;
import java.nio.file.Files;
import java.nio.file.Path;
import java.util.ArrayList;
import java.util.HashSet;
import java.util.List;
import java.util.Set;
import java.util.TreeSet;
import java.util.regex.Matcher;
import java.util.regex.Pattern;

/** The rules of ../shared/LANGUAGE.md that can be seen from outside, and the face as the document has it. */
public final class LanguageTest {
  private static final Path SOURCE = Path.of("src/main/java/Pagekernel.java");
  private static final Path DOCUMENT = Path.of("../shared/DOC.md");

  private static String plain(String text) {
    return text.replaceAll("\\s+", " ").replace(";", "").trim();
  }

  /** The source without what stands in comments and in quotes. */
  private static String bare(String source) {
    return source.replaceAll("(?s)/\\*.*?\\*/", " ").replaceAll("//[^\n]*", " ").replaceAll("\"(\\\\.|[^\"\\\\])*\"", "\"\"").replaceAll("'(\\\\.|[^'\\\\])'", "' '");
  }

  private static Set<String> face(String document) {
    Matcher face = Pattern.compile("public final class Pagekernel \\{\n(.*?)\n\\}", Pattern.DOTALL).matcher(document);
    Set<String> all = new TreeSet<>();
    if (face.find()) {
      for (String line : face.group(1).split("\n")) {
        all.add(plain(line));
      }
    }
    return all;
  }

  private static void faceIsThatOfTheDocument(String source) throws IOException {
    Set<String> due = face(Files.readString(DOCUMENT));
    Set<String> have = new TreeSet<>();
    Matcher m = Pattern.compile("\n  (public [^{;=]*\\)[^{;=]*)\\{").matcher(source);
    while (m.find()) {
      have.add(plain(m.group(1)));
    }
    Checks.due("the face", have, due);
    Checks.due("how many", due.size(), 48);
    for (Field field : Pagekernel.class.getDeclaredFields()) {
      Checks.due("private " + field, Modifier.isPrivate(field.getModifiers()), true);
    }
    Set<String> names = new HashSet<>();
    for (Method method : Pagekernel.class.getDeclaredMethods()) {
      if (Modifier.isPublic(method.getModifiers())) {
        names.add(method.getName());
      } else {
        Checks.due("private " + method, Modifier.isPrivate(method.getModifiers()), true);
      }
    }
    for (Class<?> inside : classes()) {
      for (Method method : inside.getDeclaredMethods()) {
        if (inside != Pagekernel.class || !Modifier.isPublic(method.getModifiers())) {
          Checks.due("a name of the face: " + method, names.contains(method.getName()), false);
        }
      }
    }
  }

  private static List<Class<?>> classes() {
    List<Class<?>> all = new ArrayList<>(List.of(Pagekernel.class.getDeclaredClasses()));
    all.add(Pagekernel.class);
    return all;
  }

  private static final Set<String> TYPES = Set.of("int", "long", "short", "byte", "char", "boolean", "int[]", "long[]", "byte[]", "char[]", "boolean[]", "int[][]",
      "java.lang.String", "java.lang.StringBuilder");

  private static boolean isAllowed(Class<?> type) {
    Class<?> of = type.isArray() ? type.getComponentType() : type;
    return TYPES.contains(type.getTypeName()) || of.getTypeName().startsWith("Pagekernel");
  }

  private static void classesAreSmall() {
    Checks.due("classes", classes().size() <= 13, true);
    for (Class<?> inside : classes()) {
      int fields = 0;
      for (Field field : inside.getDeclaredFields()) {
        boolean isStatic = Modifier.isStatic(field.getModifiers());
        fields += isStatic ? 0 : 1;
        Checks.due("static and not final: " + field, isStatic && !Modifier.isFinal(field.getModifiers()), false);
        Checks.due("type of " + field, isAllowed(field.getType()), true);
      }
      Checks.due("fields of " + inside + " (" + fields + ")", fields <= 20, true);
      for (Method method : inside.getDeclaredMethods()) {
        Checks.due("parameters of " + method, method.getParameterCount() <= 7, true);
        Checks.due("type of " + method, method.getReturnType() == void.class || isAllowed(method.getReturnType()), true);
      }
      boolean isRight = inside == Pagekernel.class || Modifier.isStatic(inside.getModifiers()) && Modifier.isPrivate(inside.getModifiers());
      Checks.due("private and static: " + inside, isRight, true);
    }
  }

  private static void methodsAreShort(String source) {
    String[] lines = source.split("\n");
    for (int i = 0; i < lines.length; i++) {
      boolean isHead = lines[i].matches(" {2,4}[a-zA-Z].*\\) (throws .*)?\\{") || lines[i].matches(" {6}throws .*\\{");
      if (isHead && !lines[i].matches(" *(if|for|while|switch).*")) {
        int end = i;
        while (end < lines.length && !lines[end].equals("  }") && !lines[end].equals("    }")) {
          end++;
        }
        Checks.due("lines of " + lines[i].trim() + " (" + (end - i) + ")", end - i <= 60, true);
      }
    }
  }

  private static void wordsAreAllowed(String source) {
    String bare = bare(source);
    for (String word : new String[] {"->", "::", "\\bsynchronized\\b", "\\bfinally\\b", "\\bassert\\b", "\\btry\\b", "\\bcatch\\b", "\\bvar\\b", "\\brecord\\b", "\\bstatic \\{",
      "\\+ \"", "\" \\+", "\\+= \"", "\\bSystem\\.(?!arraycopy)", "\\bArrays\\.(?!copyOf|fill)", "\\bMath\\.(?!max|min|abs|floorDiv|floorMod)", "\\bInteger\\.(?!bitCount|MIN_VALUE|MAX_VALUE)",
      "\\bString\\.", "\\bObject\\b", "\\bThread\\b", "\\bdouble\\b", "\\bfloat\\b", "==\\s*\"", "\\bwhile \\(true\\)", "\\bfor \\(;;", "\\bnew (?!int\\[|Kernel|StringBuilder\\(\\)|Text"
      + "|Code|Cpu|Translator|Memory|Files|Openings|Talk|Shelf|Process|IllegalStateException|IllegalArgumentException|IndexOutOfBoundsException)"}) {
      Matcher m = Pattern.compile(word).matcher(bare);
      Checks.due("stands in the source: " + word, m.find() ? bare.substring(Math.max(0, m.start() - 30), Math.min(bare.length(), m.end() + 30)) : "", "");
    }
    Matcher imports = Pattern.compile("\nimport ([^;]*);").matcher("\n" + source);
    while (imports.find()) {
      Checks.due("import", imports.group(1), "java.util.Arrays");
    }
    for (int i = 0; i < source.length(); i++) {
      if (source.charAt(i) > 126) {
        Checks.due("sign " + (int) source.charAt(i), "in the source", "not there");
      }
    }
    Checks.due("throws in a constructor", Pattern.compile("Pagekernel\\(\\) throws").matcher(bare).find(), false);
  }

  public static void main(String[] arguments) throws IOException {
    String source = Files.readString(SOURCE);
    faceIsThatOfTheDocument(source);
    classesAreSmall();
    methodsAreShort(source);
    wordsAreAllowed(source);
    Checks.end();
  }
}
