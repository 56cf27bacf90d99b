import java.io.IOException;
import java.nio.file.Files;
import java.nio.file.Path;
import java.util.ArrayList;
import java.util.HashMap;
import java.util.LinkedHashSet;
import java.util.List;
import java.util.Map;
import java.util.Random;
import java.util.Set;
import java.util.TreeMap;
import java.util.TreeSet;
import java.util.regex.Matcher;
import java.util.regex.Pattern;

/**
 * The form of a TEXT as the document writes it: the rules are read from ../shared/DOC.md itself, so no reading of mine
 * stands between. A TEXT is taken TOKEN by TOKEN by all ways in which the rules can go on (the way of Earley): the first
 * TOKEN with which there is none is the ERROR of KIND 1. What the other KINDS ask for is looked for in the TOKENS, one by one.
 */
public final class FormTest {
  /** By the name of a rule, all its ways; a way is a row of names, and of signs behind a quote. */
  private static final Map<String, List<List<String>>> RULES = new HashMap<>();
  private static final Map<String, Set<Integer>> TOKENS_OF = new HashMap<>();
  private static int parts;

  // ---- the rules, as they are written

  private static List<String> words(String rule) {
    List<String> all = new ArrayList<>();
    Matcher m = Pattern.compile("\"[^\"]+\"|[A-Z]+|[\\[\\]{}|]").matcher(rule);
    while (m.find()) {
      all.add(m.group());
    }
    return all;
  }

  /** Reads ways till a bracket closes; what stands in brackets becomes a rule of its own. */
  private static List<List<String>> ways(List<String> words, int[] at) {
    List<List<String>> all = new ArrayList<>();
    List<String> way = new ArrayList<>();
    all.add(way);
    while (at[0] < words.size()) {
      String word = words.get(at[0]);
      at[0]++;
      if (word.equals("]") || word.equals("}")) {
        return all;
      }
      if (word.equals("|")) {
        way = new ArrayList<>();
        all.add(way);
      } else if (word.equals("[") || word.equals("{")) {
        parts++;
        String name = "part " + parts;
        List<List<String>> inside = ways(words, at);
        if (word.equals("{")) {
          for (List<String> one : inside) {
            one.add(name);
          }
        }
        inside.add(new ArrayList<>());
        RULES.put(name, inside);
        way.add(name);
      } else {
        way.add(word);
      }
    }
    return all;
  }

  private static void rule(String name, String right) {
    RULES.put(name, ways(words(right), new int[1]));
  }

  private static String found(String document, String pattern) {
    Matcher m = Pattern.compile(pattern, Pattern.DOTALL).matcher(document);
    boolean isFound = m.find();
    Checks.due("the document has " + pattern, isFound, true);
    return isFound ? m.group(1) : "";
  }

  private static void readRules() throws IOException {
    String document = Files.readString(Path.of("../shared/DOC.md"));
    for (String name : new String[] {"TEXT", "DEFINITION", "BLOCK", "STATEMENT"}) {
      rule(name, found(document, "\n  " + name + ": (.*?)\\.(?= |\n)"));
    }
    String call = found(document, "\n  CALL: FUNCTION or SERVICE, (.*?)\\.(?= |\n)");
    rule("CALL", "FUNCTION " + call + " | SERVICE " + call);
    String levels = found(document, "\n  E: by levels, from the weakest on: (.*?); each of them from left to right; then UNARY");
    String[] level = levels.split("; ");
    for (int i = 0; i < level.length; i++) {
      String name = i == 0 ? "E" : "E" + (char) ('A' + i);
      String next = i + 1 < level.length ? "E" + (char) ('B' + i) : "UNARY";
      StringBuilder more = new StringBuilder();
      for (String sign : level[i].split(" ")) {
        more.append(more.length() > 0 ? " | " : "").append(sign).append(' ').append(next);
      }
      rule(name, next + " { " + more + " }");
    }
    rule("UNARY", found(document, "; then UNARY: (.*?)\\.(?= |\n)"));
    Checks.due("levels", level.length, 6);
    Checks.due("ways of a STATEMENT", RULES.get("STATEMENT").size(), 12);
    Checks.due("ways of UNARY", RULES.get("UNARY").size(), 8);
    range("NUMBER", 0, 19);
    range("NAME", 20, 27);
    range("ROW", 28, 29);
    range("FUNCTION", 30, 33);
    range("SERVICE", 62, 79);
  }

  private static void range(String name, int first, int last) {
    Set<Integer> all = new TreeSet<>();
    for (int token = first; token <= last; token++) {
      all.add(token);
    }
    TOKENS_OF.put(name, all);
  }

  private static Set<Integer> tokensOf(String symbol) {
    return TOKENS_OF.computeIfAbsent(symbol, key -> Set.of(Checks.token(key.substring(1, key.length() - 1))));
  }

  // ---- all ways at once

  private record Way(String name, List<String> way, int done, int from) {
    String next() {
      return done < way.size() ? way.get(done) : null;
    }

    Way on() {
      return new Way(name, way, done + 1, from);
    }
  }

  /** All ways ahead of each TOKEN. */
  private static final class Reader {
    final List<LinkedHashSet<Way>> sets = new ArrayList<>();

    Reader() {
      LinkedHashSet<Way> first = new LinkedHashSet<>();
      for (List<String> way : RULES.get("TEXT")) {
        first.add(new Way("TEXT", way, 0, 0));
      }
      sets.add(first);
      close();
    }

    private void close() {
      int here = sets.size() - 1;
      LinkedHashSet<Way> set = sets.get(here);
      List<Way> queue = new ArrayList<>(set);
      Set<String> empty = new TreeSet<>();
      for (int i = 0; i < queue.size(); i++) {
        Way item = queue.get(i);
        List<Way> more = new ArrayList<>();
        String next = item.next();
        if (next == null) {
          if (item.from() == here) {
            empty.add(item.name());
          }
          for (Way waits : new ArrayList<>(sets.get(item.from()))) {
            if (item.name().equals(waits.next())) {
              more.add(waits.on());
            }
          }
        } else if (RULES.containsKey(next)) {
          for (List<String> way : RULES.get(next)) {
            more.add(new Way(next, way, 0, here));
          }
          if (empty.contains(next)) {
            more.add(item.on());
          }
        }
        for (Way one : more) {
          if (set.add(one)) {
            queue.add(one);
          }
        }
      }
    }

    /** Whether there is a way with this TOKEN; if not, nothing changes. */
    boolean take(int token) {
      LinkedHashSet<Way> behind = new LinkedHashSet<>();
      for (Way item : sets.get(sets.size() - 1)) {
        String next = item.next();
        if (next != null && !RULES.containsKey(next) && tokensOf(next).contains(token)) {
          behind.add(item.on());
        }
      }
      if (behind.isEmpty()) {
        return false;
      }
      sets.add(behind);
      close();
      return true;
    }

    boolean isWhole() {
      for (Way item : sets.get(sets.size() - 1)) {
        if (item.next() == null && item.name().equals("TEXT") && item.from() == 0) {
          return true;
        }
      }
      return false;
    }

    List<Integer> can() {
      Set<Integer> all = new TreeSet<>();
      for (Way item : sets.get(sets.size() - 1)) {
        String next = item.next();
        if (next != null && !RULES.containsKey(next)) {
          all.addAll(tokensOf(next));
        }
      }
      return new ArrayList<>(all);
    }
  }

  /** The place of an ERROR of KIND 1; -1. */
  private static int misformed(List<Integer> text) {
    Reader reader = new Reader();
    for (int i = 0; i < text.size(); i++) {
      if (!reader.take(text.get(i))) {
        return i;
      }
    }
    return reader.isWhole() ? -1 : text.size();
  }

  // ---- KINDS 2 to 8 of a TEXT whose form is right

  private static final int[] TAKES = {0, 1, 1, 1, 1, 2, 2, 2, 1, 1, 2, 2, 1, 1, 1, 0, 0, 0};

  private static final class Meaning {
    final List<Integer> text;
    final TreeMap<Integer, Integer> kinds = new TreeMap<>();
    final Map<Integer, Integer> takes = new HashMap<>();

    Meaning(List<Integer> text) {
      this.text = text;
    }

    String sign(int place) {
      return place < text.size() ? Checks.sign(text.get(place)) : "";
    }

    boolean isName(int place) {
      return text.get(place) >= 20 && text.get(place) < 28;
    }

    int behindMatching(int place, String open, String close) {
      int depth = 0;
      for (int i = place; i < text.size(); i++) {
        depth += sign(i).equals(open) ? 1 : sign(i).equals(close) ? -1 : 0;
        if (depth == 0) {
          return i + 1;
        }
      }
      return text.size();
    }

    /** The places of all DEFINITIONS. */
    List<Integer> definitions() {
      List<Integer> all = new ArrayList<>();
      for (int i = 0; i < text.size(); i = behindMatching(behindMatching(i + 1, "(", ")"), "{", "}")) {
        all.add(i);
      }
      return all;
    }

    int behindStatement(int place) {
      if (sign(place).equals("{")) {
        return behindMatching(place, "{", "}");
      }
      if (sign(place).equals("if") || sign(place).equals("while")) {
        int behind = behindStatement(behindMatching(place + 1, "(", ")"));
        return sign(place).equals("if") && sign(behind).equals("else") ? behindStatement(behind + 1) : behind;
      }
      int i = place;
      while (!sign(i).equals(";")) {
        i++;
      }
      return i + 1;
    }

    void at(int place, int kind) {
      kinds.putIfAbsent(place, kind);
    }

    int told(int call) {
      int end = behindMatching(call + 1, "(", ")") - 1;
      int depth = 0;
      int commas = 0;
      for (int i = call + 2; i < end; i++) {
        depth += sign(i).equals("(") || sign(i).equals("[") ? 1 : sign(i).equals(")") || sign(i).equals("]") ? -1 : 0;
        commas += depth == 0 && sign(i).equals(",") ? 1 : 0;
      }
      return end == call + 2 ? 0 : commas + 1;
    }

    /** KIND times 1000 and the place. */
    int error() {
      List<Integer> all = definitions();
      for (int from : all) {
        if (takes.containsKey(text.get(from))) {
          at(from, 6);
        } else {
          takes.put(text.get(from), told(from));
        }
      }
      for (int from : all) {
        look(from);
      }
      if (!kinds.isEmpty()) {
        return kinds.firstEntry().getValue() * 1000 + kinds.firstKey();
      }
      return takes.getOrDefault(30, -1) == 0 ? -1 : 8000 + text.size();
    }

    private void look(int from) {
      int body = behindMatching(from + 1, "(", ")");
      int end = behindMatching(body, "{", "}");
      Set<Integer> locals = new TreeSet<>();
      for (int i = from; i < end; i++) {
        if (isName(i) && (i < body || sign(i - 1).equals("int")) && !locals.add(text.get(i))) {
          at(i, 7);
        }
      }
      List<int[]> loops = new ArrayList<>();
      for (int i = body; i < end; i++) {
        if (sign(i).equals("while")) {
          loops.add(new int[] {i, behindStatement(i)});
        }
        if (sign(i).equals("&") && locals.contains(text.get(i + 1))) {
          at(i + 1, 4);
        }
        if (sign(i).equals("break")) {
          int place = i;
          if (loops.stream().noneMatch(loop -> place < loop[1])) {
            at(i, 5);
          }
        }
        int token = text.get(i);
        if (token >= 30 && token < 34 || token >= 62) {
          Integer due = token >= 62 ? Integer.valueOf(TAKES[token - 62]) : takes.get(token);
          if (due == null) {
            at(i, 2);
          } else if (due != told(i)) {
            at(i, 3);
          }
        }
      }
    }
  }

  // ---- TEXTS to try

  private static final Random RANDOM = new Random(7605);

  /** TOKENS with which a TEXT comes to an end, again and again; the others make it longer. */
  private static final Set<String> ENDS = Set.of(")", "]", ";", "}");

  private static List<Integer> walked(int most) {
    Reader reader = new Reader();
    List<Integer> text = new ArrayList<>();
    while (text.size() < most) {
      List<Integer> can = reader.can();
      if (reader.isWhole() && RANDOM.nextInt(3) == 0 || can.isEmpty()) {
        break;
      }
      List<Integer> ends = new ArrayList<>();
      for (int token : can) {
        if (ENDS.contains(Checks.sign(token))) {
          ends.add(token);
        }
      }
      boolean isLong = text.size() > most * 2 / 3;
      int token = chosen(can);
      if (!ends.isEmpty() && RANDOM.nextInt(10) < (isLong ? 9 : 4)) {
        token = ends.get(RANDOM.nextInt(ends.size()));
      }
      reader.take(token);
      text.add(token);
    }
    return text;
  }

  /** Each kind of TOKEN as often as another one: there are 18 SERVICES, but one "break". */
  private static int chosen(List<Integer> can) {
    int[] firsts = {0, 20, 28, 30, 34, 62, 80};
    for (int i = 0; i < 100; i++) {
      int token = can.get(RANDOM.nextInt(can.size()));
      int size = 1;
      for (int k = 0; k + 1 < firsts.length; k++) {
        if (token >= firsts[k] && token < firsts[k + 1] && k != 4) {
          size = (firsts[k + 1] - firsts[k]) / 2;
        }
      }
      if (RANDOM.nextInt(Math.max(1, size)) == 0) {
        return token;
      }
    }
    return can.get(0);
  }

  private static void change(List<Integer> text) {
    int place = RANDOM.nextInt(text.size() + 1);
    int how = RANDOM.nextInt(4);
    if (how == 0 && text.size() < 160) {
      text.add(place, RANDOM.nextInt(80));
    } else if (how == 1 && place < text.size()) {
      text.remove(place);
    } else if (how == 2 && place < text.size()) {
      text.set(place, RANDOM.nextInt(80));
    } else if (place < text.size()) {
      text.set(place, text.get(RANDOM.nextInt(text.size())));
    }
  }

  private static void look(List<Integer> text, Map<Integer, Integer> seen) {
    Pagekernel x = new Pagekernel();
    StringBuilder signs = new StringBuilder();
    for (int i = 0; i < text.size(); i += 5) {
      int[] t = {-1, -1, -1, -1, -1};
      for (int k = 0; k < 5 && i + k < text.size(); k++) {
        t[k] = text.get(i + k);
        signs.append(signs.length() > 0 ? " " : "").append(Checks.sign(t[k]));
      }
      x.type(3, t[0], t[1], t[2], t[3], t[4]);
    }
    int place = misformed(text);
    int due = place >= 0 ? 1000 + place : new Meaning(text).error();
    int kind = due < 0 ? 0 : due / 1000;
    seen.merge(kind, 1, Integer::sum);
    Checks.due("kind of " + signs, x.kind(3), kind);
    Checks.due("error of " + signs, x.error(3), due < 0 ? -1 : due % 1000);
    Checks.due("text", x.text(3), signs.toString());
  }

  private static void manyTexts(int many) {
    Checks.sentence("ERROR of a TEXT: KIND 1: the place (from 0 on) of the first TOKEN with which, behind those ahead of it, no TEXT of this form, of whatever length, could begin; how many TOKENS there are, if it is just not whole. "
        + "If the form is right, the first of these in the order of places: 2 a FUNCTION is called that is not defined (its place); 3 a CALL has more or fewer E than what is called takes (the place of the FUNCTION or "
        + "SERVICE; a FUNCTION by its first DEFINITION); 4 a NAME behind \"&\" is LOCAL (the place of the NAME); 5 \"break\" in no \"while\" (its place); 6 a FUNCTION is defined a second time (the place of it there); 7 a "
        + "NAME is told a second time in a FUNCTION, as parameter or by \"int\" (its place); without one of these 8, if F is not defined, or has parameters (the place is how many TOKENS there are). KIND 0: no ERROR "
        + "(NONE).");
    Map<Integer, Integer> seen = new TreeMap<>();
    for (int i = 0; i < many; i++) {
      List<Integer> text = walked(5 + RANDOM.nextInt(156));
      look(text, seen);
      int changes = RANDOM.nextInt(3);
      for (int k = 0; k < changes; k++) {
        change(text);
        look(text, seen);
      }
    }
    for (int kind = 0; kind <= 8; kind++) {
      Checks.due("TEXTS of KIND " + kind + " were tried: " + seen, seen.getOrDefault(kind, 0) >= 10, true);
    }
    System.out.println("KINDS that were tried: " + seen);
  }

  /** The SAMPLES, and each of them with each of its TOKENS left out, or told twice. */
  private static void samples() {
    Checks.sentence("Its form (what stands in quotes are TOKENS; [ ] may be left out, { } may stand any number of times, | one of both): TEXT: DEFINITION { DEFINITION }. DEFINITION: FUNCTION \"(\" [ NAME { \",\" NAME } ] \")\" "
        + "BLOCK. BLOCK: \"{\" { STATEMENT } \"}\". STATEMENT: BLOCK | \"int\" NAME \";\" | \";\" | \"if\" \"(\" E \")\" STATEMENT [ \"else\" STATEMENT ] | \"while\" \"(\" E \")\" STATEMENT | \"break\" \";\" | \"return\" [ E ] \";\" "
        + "| CALL \";\" | NAME \"=\" CALL \";\" | NAME \"=\" E \";\" | ROW \"[\" E \"]\" \"=\" E \";\" | \"*\" UNARY \"=\" E \";\".");
    Checks.sentence("CALL: FUNCTION or SERVICE, \"(\" [ E { \",\" E } ] \")\".");
    Map<Integer, Integer> seen = new TreeMap<>();
    for (int k = 0; k < 8; k++) {
      Pagekernel x = new Pagekernel();
      x.sample(0, k);
      List<Integer> text = new ArrayList<>();
      for (int i = 0; i < x.length(0); i++) {
        text.add(x.token(0, i));
      }
      look(text, seen);
      for (int i = 0; i < text.size(); i++) {
        List<Integer> other = new ArrayList<>(text);
        other.remove(i);
        look(other, seen);
        other.add(i, text.get(i));
        other.add(i, text.get(i));
        look(other, seen);
      }
    }
  }

  public static void main(String[] arguments) throws IOException {
    readRules();
    manyTexts(arguments.length > 0 ? Integer.parseInt(arguments[0]) : 1500);
    samples();
    Checks.end();
  }
}
