import java.util.ArrayList;
import java.util.Arrays;
import java.util.HashSet;
import java.util.List;
import java.util.Set;

/** Section 1 of the document at its edges, and promises 2 to 11: each sentence by its words, with answers of its own. */
public final class TextEdgesTest {
  private static final String OPERATORS = "|| && == != < > + - * / %";
  private static final String NUMBERS = "0 1 2 3 4 5 6 7 8 9 10 11 12 13 14 15 16 17 18 19";
  private static final String NAMES = "a b c d e f g h";
  private static final String FUNCTIONS = "F G H I";
  private static final String SERVICES = "fork exec wait exit pipe read write open close unlink kill on put get grow pid pause sync";
  /** With what an E may begin. */
  private static final String E = NUMBERS + " " + NAMES + " x y ( - ! * &";
  /** With what a STATEMENT may begin. */
  private static final String STATEMENT = "{ int ; if while break return * x y " + FUNCTIONS + " " + SERVICES + " " + NAMES;

  private static void error(String text, int kind, int place) {
    Pagekernel x = Checks.with(text);
    Checks.due("kind of " + text, x.kind(0), kind);
    Checks.due("error of " + text, x.error(0), place);
  }

  // ---- TEXTS and TOKENS

  private static void emptyAndFull() {
    Checks.sentence("PROGRAMS: 0 to 3, each with a TEXT of at most 160 TOKENS (empty at first).");
    for (int program = 0; program < 4; program++) {
      Pagekernel x = new Pagekernel();
      for (int other = 0; other < 4; other++) {
        Checks.due("empty at first", x.length(other) + x.text(other), "0");
      }
      for (int i = 0; i < 32; i++) {
        Checks.due("so many", x.type(program, 75, i % 5, 79, 0, 19), 5 * i + 5);
      }
      Checks.due("160", x.length(program), 160);
      Checks.due("the last one", x.token(program, 159), 19);
      Checks.due("the 156th", x.token(program, 155), 75);
      int full = program;
      Checks.due("a 161st", Checks.answer(x, y -> y.type(full, 0, -1, -1, -1, -1)), Checks.STATE);
      Checks.due("160 still", x.text(program).split(" ").length, 160);
      for (int other = 0; other < 4; other++) {
        Checks.due("the others are empty still", other == program ? 0 : x.length(other), 0);
      }
      Checks.due("none at all", x.drop(program, 160), 0);
      Checks.due("empty again", x.text(program), "");
    }
  }

  private static void fullTextsRun() {
    Checks.sentence("PROGRAMS: 0 to 3, each with a TEXT of at most 160 TOKENS (empty at first).");
    String long160 = "F ( ) { " + Checks.times("put ( 3 ) ;", 30) + "put ( 4 ) ; }";
    Checks.due("its TOKENS", Checks.many(long160), 160);
    for (int level = 0; level <= 2; level++) {
      Pagekernel x = Checks.with(long160);
      Checks.due("kind", x.kind(0), 0);
      x.level(level);
      x.start(0);
      Checks.due("TICKS", x.run(200), 31);
      Checks.due("OUTS", x.house(10), 31);
      Checks.due("the last one", x.out(29), "1:3 1:4");
      // what makes the most code out of 160 TOKENS
      Pagekernel y = Checks.with("F ( ) { " + Checks.times("a = b ;", 38) + "; ; ; }");
      y.level(level);
      y.start(0);
      Checks.due("TICKS of " + y.text(0), y.run(200), 41);
      Pagekernel z = Checks.with("F ( ) { a = " + Checks.times("x [", 48) + "a " + Checks.times("]", 48) + "; put ( a ) ; }");
      Checks.due("its TOKENS", z.length(0), 158);
      z.level(level);
      z.start(0);
      z.run(200);
      Checks.due("deep in a ROW", z.ofProcess(1, 8) * 1000 + z.ofProcess(1, 7), 1000);
      Pagekernel w = Checks.with("F ( ) { " + Checks.times("while ( 1 )", 37) + "break ; }");
      w.level(level);
      w.start(0);
      Checks.due("deep in loops: none ends but the innermost", w.run(200), 200);
      Checks.due("where", w.where(1) >= 4, true);
    }
  }

  private static void tokensByNumbers() {
    Checks.sentence("TOKENS by numbers: 0 to 19 NUMBERS, 0 to 19; 20 to 27 NAMES, a to h; 28 and 29 ROWS, x and y; 30 to 33 FUNCTIONS, F, G, H, I;");
    String[] signs = (NUMBERS + " " + NAMES + " x y " + FUNCTIONS).split(" ");
    for (int token = 0; token < signs.length; token++) {
      Pagekernel x = new Pagekernel();
      x.type(0, token, -1, -1, -1, -1);
      Checks.due("sign of " + token, x.text(0), signs[token]);
    }
    Checks.due("the greatest and the least NUMBER", Checks.outs("F ( ) { put ( 19 ) ; put ( 0 ) ; }"), "1:19 1:0");
    Checks.sentence("int if else while break return { } ( ) [ ] , ; = || && == != < > + - * / % ! & and, from 62 on, SERVICES: fork exec wait exit pipe read write open close unlink kill "
        + "on put get grow pid pause sync (79).");
    String[] others = ("int if else while break return { } ( ) [ ] , ; = " + OPERATORS + " ! & " + SERVICES).split(" ");
    Checks.due("how many", others.length, 46);
    for (int i = 0; i < others.length; i++) {
      Pagekernel x = new Pagekernel();
      x.type(0, 34 + i, -1, -1, -1, -1);
      Checks.due("sign of " + (34 + i), x.text(0), others[i]);
    }
    Checks.sentence("A TEXT is written with these signs, a blank between two.");
    Pagekernel x = new Pagekernel();
    Checks.due("no TOKEN", x.text(2), "");
    x.type(2, 79, -1, -1, -1, -1);
    Checks.due("one", x.text(2), "sync");
    x.type(2, 71, 10, -1, -1, -1);
    Checks.due("three", x.text(2), "sync unlink 10");
  }

  // ---- the form: with which TOKENS a TEXT can go on

  /** Behind these TOKENS just the ones that are told can stand, or the TEXT is whole. */
  private static void goesOn(String behind, String... with) {
    Set<String> can = new HashSet<>();
    for (String some : with) {
      can.addAll(Arrays.asList(some.split(" ")));
    }
    Pagekernel x = Checks.with(behind);
    int place = Checks.many(behind);
    boolean isOneDeep = depth(behind) == 1;
    for (int token = 0; token < 80; token++) {
      String sign = Checks.sign(token);
      x.type(0, token, -1, -1, -1, -1);
      boolean isWhole = can.contains(sign) && sign.equals("}") && isOneDeep;
      Checks.due("kind of " + behind + " " + sign, x.kind(0), isWhole ? 0 : 1);
      Checks.due("error of " + behind + " " + sign, x.error(0), isWhole ? -1 : can.contains(sign) ? place + 1 : place);
      x.drop(0, 1);
    }
  }

  private static int depth(String text) {
    int depth = 0;
    for (String sign : text.split(" ")) {
      depth += sign.equals("{") ? 1 : sign.equals("}") ? -1 : 0;
    }
    return depth;
  }

  private static void definitions() {
    Checks.sentence("KIND 1: the place (from 0 on) of the first TOKEN with which, behind those ahead of it, no TEXT of this form, of whatever length, could begin; how many TOKENS there are, if "
        + "it is just not whole.");
    goesOn("", FUNCTIONS);
    goesOn("F", "(");
    goesOn("F (", NAMES, ")");
    goesOn("F ( a", ", )");
    goesOn("F ( a ,", NAMES);
    goesOn("F ( a , a", ", )");
    goesOn("F ( )", "{");
    goesOn("F ( a )", "{");
    goesOn("F ( ) {", STATEMENT, "}");
    goesOn("F ( ) { }", FUNCTIONS);
    goesOn("F ( ) { } G", "(");
    goesOn("F ( ) { } G ( ) {", STATEMENT, "}");
  }

  private static void statements() {
    goesOn("F ( ) { {", STATEMENT, "}");
    goesOn("F ( ) { { }", STATEMENT, "}");
    goesOn("F ( ) { int", NAMES);
    goesOn("F ( ) { int a", ";");
    goesOn("F ( ) { int a ;", STATEMENT, "}");
    goesOn("F ( ) { ;", STATEMENT, "}");
    goesOn("F ( ) { if", "(");
    goesOn("F ( ) { if (", E);
    goesOn("F ( ) { if ( 1", OPERATORS, ")");
    goesOn("F ( ) { if ( 1 )", STATEMENT);
    goesOn("F ( ) { if ( 1 ) ;", STATEMENT, "} else");
    goesOn("F ( ) { if ( 1 ) { }", STATEMENT, "} else");
    goesOn("F ( ) { if ( 1 ) int a ;", STATEMENT, "} else");
    goesOn("F ( ) { if ( 1 ) ; ;", STATEMENT, "}");
    goesOn("F ( ) { if ( 1 ) ; else", STATEMENT);
    goesOn("F ( ) { if ( 1 ) ; else ;", STATEMENT, "}");
    goesOn("F ( ) { if ( 1 ) if ( 1 ) ; else ;", STATEMENT, "} else");
    goesOn("F ( ) { if ( 1 ) if ( 1 ) ; else ; else ;", STATEMENT, "}");
    goesOn("F ( ) { if ( 1 ) while ( 1 ) ;", STATEMENT, "} else");
    goesOn("F ( ) { if ( 1 ) ; else if ( 1 ) ;", STATEMENT, "} else");
    goesOn("F ( ) { while", "(");
    goesOn("F ( ) { while (", E);
    goesOn("F ( ) { while ( 1", OPERATORS, ")");
    goesOn("F ( ) { while ( 1 )", STATEMENT);
    goesOn("F ( ) { while ( 1 ) ;", STATEMENT, "}");
    goesOn("F ( ) { while ( 1 ) { ;", STATEMENT, "}");
    goesOn("F ( ) { break", ";");
    goesOn("F ( ) { return", E, ";");
    goesOn("F ( ) { return 1", OPERATORS, ";");
    goesOn("F ( ) { return ;", STATEMENT, "}");
  }

  private static void callsAndStores() {
    for (String called : new String[] {"put", "sync", "F", "I"}) {
      goesOn("F ( ) { " + called, "(");
      goesOn("F ( ) { " + called + " (", E, ")");
      goesOn("F ( ) { " + called + " ( 1", OPERATORS, ", )");
      goesOn("F ( ) { " + called + " ( 1 ,", E);
      goesOn("F ( ) { " + called + " ( 1 , a", OPERATORS, ", )");
      goesOn("F ( ) { " + called + " ( )", ";");
      goesOn("F ( ) { a = " + called, "(");
      goesOn("F ( ) { a = " + called + " (", E, ")");
      goesOn("F ( ) { a = " + called + " ( 1 )", ";");
    }
    goesOn("F ( ) { a", "=");
    goesOn("F ( ) { a =", E, FUNCTIONS, SERVICES);
    goesOn("F ( ) { a = 1", OPERATORS, ";");
    goesOn("F ( ) { x", "[");
    goesOn("F ( ) { y [", E);
    goesOn("F ( ) { x [ 1", OPERATORS, "]");
    goesOn("F ( ) { x [ 1 ]", "=");
    goesOn("F ( ) { x [ 1 ] =", E);
    goesOn("F ( ) { x [ 1 ] = 1", OPERATORS, ";");
    goesOn("F ( ) { *", E);
    goesOn("F ( ) { * a", "=");
    goesOn("F ( ) { * 1", "=");
    goesOn("F ( ) { * x", "= [");
    goesOn("F ( ) { * x [ 1 ]", "=");
    goesOn("F ( ) { * (", E);
    goesOn("F ( ) { * ( 1", OPERATORS, ")");
    goesOn("F ( ) { * ( 1 )", "=");
    goesOn("F ( ) { * & a", "=");
    goesOn("F ( ) { * 1 =", E);
    goesOn("F ( ) { * 1 = 1", OPERATORS, ";");
  }

  private static void expressions() {
    for (String sign : new String[] {"-", "!", "*", "("}) {
      goesOn("F ( ) { a = " + sign, E);
    }
    goesOn("F ( ) { a = &", NAMES);
    goesOn("F ( ) { a = & b", OPERATORS, ";");
    goesOn("F ( ) { a = - b", OPERATORS, ";");
    goesOn("F ( ) { a = x", OPERATORS, "; [");
    goesOn("F ( ) { a = x [", E);
    goesOn("F ( ) { a = x [ 1 ]", OPERATORS, ";");
    goesOn("F ( ) { a = ( 1", OPERATORS, ")");
    goesOn("F ( ) { a = ( 1 )", OPERATORS, ";");
    for (String operator : OPERATORS.split(" ")) {
      goesOn("F ( ) { a = 1 " + operator, E);
      goesOn("F ( ) { a = 1 " + operator + " b", OPERATORS, ";");
    }
  }

  private static void notWhole() {
    Checks.sentence("how many TOKENS there are, if it is just not whole.");
    for (int k = 0; k < 8; k++) {
      Pagekernel x = new Pagekernel();
      int length = x.sample(0, k);
      String text = x.text(0);
      int first = k == 1 || k == 5 || k == 7 ? text.indexOf("} F") + 1 : -1;
      int firstEnds = first < 0 ? -1 : Checks.many(text.substring(0, first));
      for (int left = length - 1; left >= 0; left--) {
        x.drop(0, 1);
        Checks.due("error of " + left + " of sample " + k, x.error(0), left);
        Checks.due("kind of " + left + " of sample " + k, x.kind(0), left == firstEnds ? 8 : 1);
      }
    }
    error("", 1, 0);
    error(Checks.times("F", 160), 1, 1);
    error(("F ( ) { " + Checks.times("{", 156)).trim(), 1, 160);
    error(("F ( ) { " + Checks.times(";", 156)).trim(), 1, 160);
    error(("F ( ) { " + Checks.times(";", 155) + "}").trim(), 0, -1);
    error(("F ( ) { } " + Checks.times("G ( ) { }", 31)).trim(), 6, 10);
  }

  private static void elses() {
    Checks.sentence("An \"else\" belongs to the last \"if\" that can have one.");
    String[] runs = {"if ( 0 ) if ( 1 ) put ( 1 ) ; else put ( 2 ) ; put ( 3 ) ;", "1:3", "if ( 1 ) if ( 0 ) put ( 1 ) ; else put ( 2 ) ; put ( 3 ) ;", "1:2 1:3",
      "if ( 0 ) { if ( 1 ) put ( 1 ) ; } else put ( 2 ) ; put ( 3 ) ;", "1:2 1:3", "if ( 0 ) if ( 1 ) put ( 1 ) ; else put ( 2 ) ; else put ( 3 ) ;", "1:3",
      "if ( 1 ) while ( 1 ) if ( a ) break ; else a = 1 ; put ( a ) ;", "1:1", "if ( 1 ) if ( 1 ) put ( 1 ) ; else put ( 2 ) ; else put ( 3 ) ;", "1:1",
      "if ( 0 ) ; else if ( 0 ) put ( 1 ) ; else put ( 2 ) ;", "1:2"};
    for (int i = 0; i < runs.length; i += 2) {
      Checks.due(runs[i], Checks.outs("F ( ) { " + runs[i] + " }"), runs[i + 1]);
    }
  }

  // ---- E by levels

  private static int levelOf(int operator) {
    return new int[] {0, 1, 2, 2, 3, 3, 4, 4, 5, 5, 5}[operator];
  }

  private static int of(int operator, int left, int right) {
    switch (operator) {
      case 0: return left != 0 || right != 0 ? 1 : 0;
      case 1: return left != 0 && right != 0 ? 1 : 0;
      case 2: return left == right ? 1 : 0;
      case 3: return left == right ? 0 : 1;
      case 4: return left < right ? 1 : 0;
      case 5: return left > right ? 1 : 0;
      case 6: return left + right;
      case 7: return left - right;
      case 8: return left * right;
      case 9: return left / right;
      default: return left % right;
    }
  }

  private static void levels() {
    Checks.sentence("E: by levels, from the weakest on: \"||\"; \"&&\"; \"==\" \"!=\"; \"<\" \">\"; \"+\" \"-\"; \"*\" \"/\" \"%\"; each of them from left to right;");
    String[] signs = OPERATORS.split(" ");
    int[][] values = {{7, 3, 2}, {0, 3, 2}, {2, 2, 1}, {1, 0, 5}, {0, 0, 3}};
    for (int[] v : values) {
      for (int first = 0; first < signs.length; first++) {
        for (int second = 0; second < signs.length; second++) {
          boolean isLeft = levelOf(first) >= levelOf(second);
          if (first >= 9 && v[1] == 0 || isLeft && second >= 9 && v[2] == 0 || !isLeft && first >= 9) {
            continue;
          }
          int due = isLeft ? of(second, of(first, v[0], v[1]), v[2]) : of(first, v[0], of(second, v[1], v[2]));
          String sum = v[0] + " " + signs[first] + " " + v[1] + " " + signs[second] + " " + v[2];
          String cells = "b " + signs[first] + " c " + signs[second] + " d";
          int level = (first + second) % 3;
          Pagekernel x = Checks.with("F ( ) { b = " + v[0] + " ; c = " + v[1] + " ; d = " + v[2] + " ; put ( " + sum + " ) ; put ( " + cells + " ) ; }");
          x.level(level);
          x.start(0);
          x.run(9);
          Checks.due(sum + " at level " + level, x.out(0), "1:" + due + " 1:" + due);
        }
      }
    }
    Checks.sentence("then UNARY: \"-\" UNARY | \"!\" UNARY | \"*\" UNARY | \"&\" NAME | NUMBER | NAME | ROW [ \"[\" E \"]\" ] | \"(\" E \")\".");
    Checks.due("UNARY is the strongest", Checks.outs("F ( ) { a = 3 ; put ( - a + 1 ) ; put ( ! a + 1 ) ; put ( * & a * 2 ) ; put ( - a * - a ) ; put ( ! ! a == 1 ) ; put ( - ( a + 1 ) ) ; }"),
        "1:-2 1:1 1:6 1:9 1:1 1:-4");
  }

  // ---- KINDS 2 to 8

  private static void calledAndNotDefined() {
    Checks.sentence("2 a FUNCTION is called that is not defined (its place);");
    for (String function : new String[] {"G", "H", "I"}) {
      error("F ( ) { " + function + " ( ) ; }", 2, 4);
      error("F ( ) { a = " + function + " ( 1 ) ; }", 2, 6);
      error("F ( ) { ; } " + function + " ( ) { " + function + " ( ) ; }", 0, -1);
      error("F ( ) { " + function + " ( ) ; } " + function + " ( ) { }", 0, -1);
    }
    error("G ( ) { F ( ) ; }", 2, 4);
    error("F ( ) { F ( ) ; }", 0, -1);
  }

  private static String list(int many, String between, String[] of) {
    StringBuilder all = new StringBuilder();
    for (int i = 0; i < many; i++) {
      all.append(i > 0 ? between : "").append(of[i % of.length]).append(' ');
    }
    return all.toString();
  }

  private static void moreOrFewer() {
    Checks.sentence("3 a CALL has more or fewer E than what is called takes (the place of the FUNCTION or SERVICE; a FUNCTION by its first DEFINITION);");
    String[] names = NAMES.split(" ");
    for (int takes = 0; takes <= 8; takes++) {
      for (int told = 0; told <= 9; told++) {
        String text = "G ( " + list(takes, ", ", names) + ") { } F ( ) { G ( " + list(told, ", ", new String[] {"1", "a + 1", "x [ 1 ]"}) + ") ; }";
        int place = Checks.many("G ( " + list(takes, ", ", names) + ") { } F ( ) {");
        error(text, takes == told ? 0 : 3, takes == told ? -1 : place);
      }
    }
    error("F ( ) { a = G ( ) ; } G ( b ) { }", 3, 6);
    error("F ( ) { G ( 1 ) ; } G ( a ) { } G ( ) { }", 6, 16);
    error("F ( ) { G ( ) ; } G ( a ) { } G ( ) { }", 3, 4);
    error("G ( ) { } F ( ) { G ( 1 ) ; } G ( a ) { }", 3, 9);
    error("F ( ) { F ( 1 ) ; }", 3, 4);
    Checks.sentence("SERVICES take: fork, pid, pause, sync none; read, write, open, kill, on two; all others one.");
    for (String service : SERVICES.split(" ")) {
      int takes = "fork pid pause sync".contains(service) ? 0 : "read write open kill on".contains(service) ? 2 : 1;
      for (int told = 0; told <= 9; told++) {
        String text = "F ( ) { a = " + service + " ( " + list(told, ", ", new String[] {"1"}) + ") ; }";
        error(text, takes == told ? 0 : 3, takes == told ? -1 : 6);
      }
    }
  }

  private static void localBehindAnd() {
    Checks.sentence("4 a NAME behind \"&\" is LOCAL (the place of the NAME);");
    String[] names = NAMES.split(" ");
    for (int i = 0; i < 8; i++) {
      String other = names[(i + 1) % 8];
      error("F ( ) { int " + names[i] + " ; " + other + " = & " + names[i] + " ; }", 4, 10);
      error("F ( ) { int " + names[i] + " ; " + other + " = & " + other + " ; }", 0, -1);
      error("G ( " + names[i] + " ) { put ( & " + names[i] + " ) ; } F ( ) { }", 4, 8);
      error("F ( ) { put ( & " + names[i] + " ) ; { { int " + names[i] + " ; } } }", 4, 7);
      error("F ( ) { put ( & " + names[i] + " ) ; } G ( " + names[i] + " ) { }", 0, -1);
    }
    Checks.sentence("In a DEFINITION those NAMES are LOCAL that are its parameters, or stand behind \"int\" anywhere in it; all others are GLOBAL.");
    Checks.due("stored to ahead of its \"int\"", Checks.outs("F ( ) { a = 5 ; { { int a ; } } put ( a ) ; put ( * 8 ) ; a = 6 ; put ( * 8 ) ; }"), "1:5 1:0 1:0");
    Checks.due("GLOBAL in the other one", Checks.outs("G ( ) { put ( a ) ; } F ( ) { int a ; a = 5 ; G ( ) ; * 8 = 4 ; G ( ) ; put ( a ) ; }"), "1:0 1:4 1:5");
    Pagekernel x = Checks.with("I ( h , a , g ) { int b ; } F ( ) { }");
    for (int name = 0; name < 8; name++) {
      Checks.due("isLocal of I", x.isLocal(0, 3, name), "abgh".indexOf("abcdefgh".charAt(name)) >= 0 ? 1 : 0);
      Checks.due("isLocal of F without any", x.isLocal(0, 0, name), 0);
      Checks.due("isLocal of G that is not defined", x.isLocal(0, 1, name), -1);
      Checks.due("isLocal of an empty TEXT", x.isLocal(1, 0, name), -1);
    }
    Checks.sentence("Returns 1 if that NAME is LOCAL there, 0 if it is GLOBAL; NONE, if the TEXT has an ERROR, or the FUNCTION is not defined.");
    String[] wrong = {"F ( ) { int a ;", "F ( ) { int a ; G ( ) ; }", "F ( ) { int a ; put ( ) ; }", "F ( ) { int a ; put ( & a ) ; }", "F ( ) { int a ; break ; }",
      "F ( ) { int a ; } F ( ) { }", "F ( ) { int a ; int a ; }", "F ( a ) { }"};
    for (int i = 0; i < wrong.length; i++) {
      Pagekernel y = Checks.with(wrong[i]);
      Checks.due("kind", y.kind(0), i + 1);
      Checks.due("isLocal of " + wrong[i], y.isLocal(0, 0, 0), -1);
      Checks.due("isLocal of " + wrong[i], y.isLocal(0, 0, 1), -1);
      Checks.due("start of " + wrong[i], y.start(0), -9);
    }
  }

  private static void breaks() {
    Checks.sentence("5 \"break\" in no \"while\" (its place);");
    error("F ( ) { break ; }", 5, 4);
    error("F ( ) { { if ( 1 ) { break ; } } }", 5, 10);
    error("F ( ) { if ( 1 ) ; else break ; }", 5, 10);
    error("F ( ) { while ( 1 ) break ; }", 0, -1);
    error("F ( ) { while ( 1 ) { if ( 1 ) { { break ; } } else break ; } }", 0, -1);
    error("F ( ) { while ( 1 ) break ; break ; }", 5, 10);
    error("F ( ) { while ( 1 ) { while ( 1 ) ; } break ; }", 5, 15);
    error("F ( ) { while ( 1 ) while ( 1 ) break ; break ; }", 5, 14);
    error("F ( ) { while ( 1 ) ; } G ( ) { break ; }", 5, 14);
    error("F ( ) { break ; while ( 1 ) break ; }", 5, 4);
  }

  private static void definedTwice() {
    Checks.sentence("6 a FUNCTION is defined a second time (the place of it there);");
    for (String function : new String[] {"G", "H", "I"}) {
      error("F ( ) { } " + function + " ( a ) { } " + function + " ( a ) { }", 6, 11);
      error(function + " ( ) { } F ( ) { } " + function + " ( ) { } " + function + " ( ) { }", 6, 10);
    }
    error("F ( ) { } F ( ) { }", 6, 5);
    error("F ( ) { } G ( ) { } H ( ) { } I ( ) { }", 0, -1);
  }

  private static void toldTwice() {
    Checks.sentence("7 a NAME is told a second time in a FUNCTION, as parameter or by \"int\" (its place);");
    for (String name : NAMES.split(" ")) {
      error("G ( " + name + " , " + name + " ) { } F ( ) { }", 7, 4);
      error("G ( " + name + " ) { int " + name + " ; } F ( ) { }", 7, 6);
      error("F ( ) { int " + name + " ; int " + name + " ; }", 7, 8);
      error("F ( ) { { int " + name + " ; } if ( 1 ) int " + name + " ; }", 7, 14);
      error("F ( ) { int " + name + " ; } G ( " + name + " ) { } H ( ) { int " + name + " ; }", 0, -1);
    }
    error("F ( ) { int a ; int b ; int c ; int d ; int e ; int f ; int g ; int h ; }", 0, -1);
    error("F ( ) { int a ; int b ; int c ; int d ; int e ; int f ; int g ; int h ; int a ; }", 7, 29);
    error("G ( a , b , c , d , e , f , g , h , a ) { } F ( ) { }", 7, 18);
  }

  private static void withoutF() {
    Checks.sentence("without one of these 8, if F is not defined, or has parameters (the place is how many TOKENS there are).");
    error("G ( ) { }", 8, 5);
    error("G ( ) { } H ( ) { } I ( ) { }", 8, 15);
    error("F ( a ) { }", 8, 6);
    error("F ( a , b , c , d , e , f , g , h ) { ; }", 8, 21);
    error(("G ( ) { " + Checks.times(";", 155) + "}").trim(), 8, 160);
    error("G ( ) { break ; }", 5, 4);
    error("F ( a ) { int a ; }", 7, 6);
  }

  private static void firstInTheOrderOfPlaces() {
    Checks.sentence("If the form is right, the first of these in the order of places:");
    // a part with an ERROR of each KIND from 2 to 7, and the place of it in the part
    String[] parts = {"G ( ) ;", "put ( ) ;", "put ( & h ) ;", "break ;", "", "int h ;"};
    int[] places = {0, 0, 3, 0, 0, 1};
    for (int first = 2; first <= 7; first++) {
      for (int second = 2; second <= 7; second++) {
        if (first == 6 || second == 6) {
          continue;
        }
        String ahead = "F ( ) { int h ; ";
        error(ahead + parts[first - 2] + " " + parts[second - 2] + " }", first, Checks.many(ahead) + places[first - 2]);
        error(ahead + parts[first - 2] + " } F ( ) { }", first, Checks.many(ahead) + places[first - 2]);
        error("F ( ) { } F ( ) { int h ; " + parts[first - 2] + " }", 6, 5);
      }
      if (first != 6) {
        String all = "F ( a ) { int h ; " + parts[first - 2] + " }";
        error(all, first, Checks.many("F ( a ) { int h ;") + places[first - 2]);
      }
    }
    error("F ( ) { break ; } ;", 1, 7);
    error("F ( ) { G ( ) ; put ( ) ; put ( & a ) ; break ; int a ; int a ;", 1, 26);
    Checks.sentence("KIND 0: no ERROR (NONE).");
    error("F ( ) { }", 0, -1);
  }

  // ---- what changes a TEXT

  private static void fiveAtATime() {
    Checks.sentence("Writes up to five TOKENS behind the TEXT, up to the first NONE of them.");
    for (int mask = 0; mask < 32; mask++) {
      int[] t = new int[5];
      int due = 5;
      for (int i = 4; i >= 0; i--) {
        t[i] = (mask >> i & 1) == 1 ? -1 : 10 + i;
        due = t[i] == -1 ? i : due;
      }
      Pagekernel x = new Pagekernel();
      x.type(1, 0, -1, -1, -1, -1);
      Checks.due("type " + mask, x.type(1, t[0], t[1], t[2], t[3], t[4]), 1 + due);
      List<String> signs = new ArrayList<>(List.of("0"));
      for (int i = 0; i < due; i++) {
        signs.add("" + (10 + i));
      }
      Checks.due("text", x.text(1), String.join(" ", signs));
    }
  }

  private static void othersInPlace() {
    Checks.sentence("Another TOKEN stands in a place.");
    Pagekernel x = Checks.with("F ( ) { put ( 1 ) ; }");
    Checks.due("the same one", x.change(0, 0, 30), 30);
    Checks.due("kind", x.kind(0), 0);
    Checks.due("the first", x.change(0, 0, 33), 30);
    Checks.due("kind then", x.kind(0), 8);
    Checks.due("back", x.change(0, 0, 30), 33);
    Checks.due("the last", x.change(0, 9, 0), 41);
    Checks.due("error then", x.error(0), 9);
    Checks.due("back", x.change(0, 9, 41), 0);
    Checks.due("error then", x.error(0), -1);
    Checks.sentence("The TEXT becomes a SAMPLE (section 7).");
    Pagekernel y = Checks.with("F ( ) { " + Checks.times(";", 155) + "}");
    Checks.due("of a full TEXT", y.sample(0, 0), 27);
    Checks.due("kind", y.kind(0), 0);
    String[] samples = {"F ( ) { int a ; while ( a < 3 ) { put ( a ) ; a = a + 1 ; } }",
      "G ( a ) { int b ; if ( a < 2 ) return 1 ; b = G ( a - 1 ) ; return a * b ; } F ( ) { a = G ( 5 ) ; put ( a ) ; }",
      "F ( ) { int b ; a = 7 ; b = fork ( ) ; if ( b == 0 ) { a = a + 1 ; put ( a ) ; exit ( 3 ) ; } wait ( & c ) ; put ( a ) ; put ( c ) ; }",
      "F ( ) { int b ; pipe ( x ) ; b = fork ( ) ; if ( ! b ) { close ( x [ 0 ] ) ; while ( b < 6 ) { write ( x [ 1 ] , b * b ) ; b = b + 1 ; } exit ( 0 ) ; } close ( x [ 1 ] ) ; "
          + "while ( 1 ) { b = read ( x [ 0 ] , & a ) ; if ( b < 1 ) break ; put ( a ) ; } }",
      "F ( ) { int b ; b = open ( 3 , 2 ) ; write ( b , 11 ) ; write ( b , 12 ) ; sync ( ) ; close ( b ) ; b = open ( 3 , 3 ) ; write ( b , 13 ) ; unlink ( 4 ) ; b = open ( 3 , 0 ) ; "
          + "c = read ( b , & a ) ; while ( c ) { put ( a ) ; c = read ( b , & a ) ; } }",
      "H ( a ) { put ( a + 10 ) ; c = c + 1 ; } F ( ) { on ( 1 , 2 ) ; on ( 2 , 2 ) ; while ( c < 2 ) pause ( ) ; put ( c ) ; }",
      "F ( ) { int b ; b = grow ( 8 ) ; y [ 8 ] = 9 ; put ( * b ) ; b = b + 7 ; * b = a / 2 ; * ( b + 1 ) = 1 ; }",
      "G ( a ) { int b ; b = fork ( ) ; if ( a > 1 && b ) b = G ( a - 1 ) ; x [ a ] = a ; return b ; } F ( ) { int a ; a = G ( 3 ) ; while ( 0 < a ) a = wait ( 0 ) ; "
          + "put ( x [ 1 ] + x [ 2 ] * 10 ) ; exec ( 0 ) ; }"};
    for (int k = 0; k < samples.length; k++) {
      Checks.sentence(k + ": " + samples[k]);
      Checks.due("sample(0, " + k + ")", y.sample(0, k), Checks.many(samples[k]));
      Checks.due("text", y.text(0), samples[k]);
      Checks.due("kind", y.kind(0), 0);
    }
  }

  /** What was asked before tells nothing of a TEXT that has changed since. */
  private static void askedAgain() {
    Checks.sentence("Returns KIND of its ERROR.");
    Pagekernel x = Checks.with("F ( ) {");
    Checks.due("not whole", x.kind(0) * 100 + x.error(0), 104);
    x.type(0, Checks.token("}"), -1, -1, -1, -1);
    Checks.due("whole by type", x.kind(0) * 100 + x.error(0), -1);
    Checks.due("start", x.start(0), 1);
    x.type(0, Checks.token("}"), -1, -1, -1, -1);
    Checks.due("wrong by type", x.kind(0) * 100 + x.error(0), 105);
    Checks.due("no start", x.start(0), -9);
    x.drop(0, 1);
    Checks.due("whole by drop", x.kind(0) * 100 + x.error(0), -1);
    x.drop(0, 1);
    Checks.due("wrong by drop", x.kind(0) * 100 + x.error(0), 104);
    x.sample(0, 0);
    Checks.due("whole by sample", x.kind(0) * 100 + x.error(0), -1);
    Checks.due("isLocal", x.isLocal(0, 0, 0), 1);
    x.change(0, 5, Checks.token("b"));
    Checks.due("isLocal by change", x.isLocal(0, 0, 0) * 10 + x.isLocal(0, 0, 1), 1);
    x.change(0, 26, Checks.token("{"));
    Checks.due("wrong by change", x.kind(0) * 100 + x.error(0), 127);
    Checks.due("isLocal of a wrong one", x.isLocal(0, 0, 1), -1);
    x.change(0, 26, Checks.token("}"));
    Checks.due("whole by change", x.kind(0) * 100 + x.error(0), -1);
  }

  public static void main(String[] arguments) {
    emptyAndFull();
    fullTextsRun();
    tokensByNumbers();
    definitions();
    statements();
    callsAndStores();
    expressions();
    notWhole();
    elses();
    levels();
    calledAndNotDefined();
    moreOrFewer();
    localBehindAnd();
    breaks();
    definedTwice();
    toldTwice();
    withoutF();
    firstInTheOrderOfPlaces();
    fiveAtATime();
    othersInPlace();
    askedAgain();
    Checks.end();
  }
}
