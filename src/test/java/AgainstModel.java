import java.lang.reflect.InvocationTargetException;
import java.lang.reflect.Method;
import java.util.ArrayList;
import java.util.Arrays;
import java.util.HashMap;
import java.util.List;
import java.util.Map;
import java.util.TreeMap;

/**
 * Long runs of calls on a Pagekernel and on a model of the document that knows no code, no pages and no disk: trees of
 * statements, maps of cells, and a copy of all FILES for each ACT. Every answer and every exception must be the same.
 * The numbers of the runs are fixed, so each failure comes again: java AgainstModel FIRST MANY.
 */
public final class AgainstModel {
  private static final String[] SIGNS = signs();
  private static final int NONE = -1;

  private static String[] signs() {
    List<String> all = new ArrayList<>();
    for (int i = 0; i < 20; i++) {
      all.add(String.valueOf(i));
    }
    all.addAll(Arrays.asList(("a b c d e f g h x y F G H I int if else while break return { } ( ) [ ] , ; = || && == != < > + - * / % ! & "
        + "fork exec wait exit pipe read write open close unlink kill on put get grow pid pause sync").split(" ")));
    return all.toArray(new String[0]);
  }

  static int[] tokens(String text) {
    if (text.isEmpty()) {
      return new int[0];
    }
    String[] words = text.trim().split(" +");
    int[] found = new int[words.length];
    for (int i = 0; i < words.length; i++) {
      found[i] = Arrays.asList(SIGNS).indexOf(words[i]);
      if (found[i] < 0) {
        throw new IllegalStateException("no token " + words[i]);
      }
    }
    return found;
  }

  // ---- trees

  private static final class Misformed extends RuntimeException {
    final int place;

    Misformed(int place) {
      this.place = place;
    }
  }

  private static final class Trap extends RuntimeException {
    final int number;

    Trap(int number) {
      this.number = number;
    }
  }

  private static final class Expr {
    String op;
    int value;
    int place;
    Expr left;
    Expr right;

    Expr(String op, int value, int place, Expr left, Expr right) {
      this.op = op;
      this.value = value;
      this.place = place;
      this.left = left;
      this.right = right;
    }
  }

  private static final class Stmt {
    String kind;
    int place;
    int name = NONE;
    Expr address;
    Expr value;
    int called = NONE;
    int calledPlace;
    List<Expr> arguments = new ArrayList<>();
    List<Stmt> block;
    Stmt body;
    Stmt other;
    // where it leads
    Stmt next;
    Stmt inside;
    Stmt otherwise;
  }

  private static final class Def {
    int function;
    int place;
    List<Integer> parameters = new ArrayList<>();
    List<Integer> told = new ArrayList<>();
    List<Integer> toldPlaces = new ArrayList<>();
    Stmt body;
    Stmt first;
  }

  private static final class Prog {
    Map<Integer, Def> defs = new TreeMap<>();
    int error = NONE;
    int kind;
  }

  private static final class Parser {
    final int[] t;
    int at;
    int worst = NONE;
    int worstKind;
    final Map<Integer, Def> first = new TreeMap<>();
    Def def;

    Parser(int[] t) {
      this.t = t;
    }

    String sign() {
      return at < t.length ? SIGNS[t[at]] : "";
    }

    int now() {
      return at < t.length ? t[at] : NONE;
    }

    void need(String sign) {
      if (!sign().equals(sign)) {
        throw new Misformed(at);
      }
      at++;
    }

    boolean isName() {
      return now() >= 20 && now() < 28;
    }

    boolean isFunction() {
      return now() >= 30 && now() < 34;
    }

    boolean isService() {
      return now() >= 62;
    }

    Prog parse() {
      Prog prog = new Prog();
      List<Def> all = new ArrayList<>();
      try {
        do {
          all.add(definition());
        } while (at < t.length);
      } catch (Misformed m) {
        prog.error = m.place;
        prog.kind = 1;
        return prog;
      }
      for (Def d : all) {
        prog.defs.putIfAbsent(d.function, d);
      }
      for (Def d : all) {
        if (prog.defs.get(d.function) != d) {
          worse(6, d.place);
        }
        for (int i = 0; i < d.told.size(); i++) {
          if (d.told.indexOf(d.told.get(i)) < i) {
            worse(7, d.toldPlaces.get(i));
          }
        }
        look(d.body, d, prog, false);
      }
      if (worst != NONE) {
        prog.error = worst;
        prog.kind = worstKind;
      } else if (!prog.defs.containsKey(0) || !prog.defs.get(0).parameters.isEmpty()) {
        prog.error = t.length;
        prog.kind = 8;
      } else {
        for (Def d : prog.defs.values()) {
          d.first = link(d.body, null, null);
        }
      }
      return prog;
    }

    void worse(int kind, int place) {
      if (worst == NONE || place < worst) {
        worst = place;
        worstKind = kind;
      }
    }

    void look(Stmt s, Def d, Prog prog, boolean inLoop) {
      if (s == null) {
        return;
      }
      if (s.kind.equals("break") && !inLoop) {
        worse(5, s.place);
      }
      if (s.called != NONE) {
        int takes;
        if (s.called >= 62) {
          int[] takesAll = {0, 1, 1, 1, 1, 2, 2, 2, 1, 1, 2, 2, 1, 1, 1, 0, 0, 0};
          takes = takesAll[s.called - 62];
        } else if (!prog.defs.containsKey(s.called - 30)) {
          worse(2, s.calledPlace);
          takes = s.arguments.size();
        } else {
          takes = prog.defs.get(s.called - 30).parameters.size();
        }
        if (takes != s.arguments.size()) {
          worse(3, s.calledPlace);
        }
      }
      lookIn(s.address, d);
      lookIn(s.value, d);
      for (Expr e : s.arguments) {
        lookIn(e, d);
      }
      if (s.block != null) {
        for (Stmt inner : s.block) {
          look(inner, d, prog, inLoop);
        }
      }
      look(s.body, d, prog, inLoop || s.kind.equals("while"));
      look(s.other, d, prog, inLoop);
    }

    void lookIn(Expr e, Def d) {
      if (e == null) {
        return;
      }
      if (e.op.equals("address") && d.told.contains(e.value)) {
        worse(4, e.place);
      }
      lookIn(e.left, d);
      lookIn(e.right, d);
    }

    Stmt link(Stmt s, Stmt after, Stmt behindLoop) {
      switch (s.kind) {
        case "block":
          Stmt cur = after;
          for (int i = s.block.size() - 1; i >= 0; i--) {
            cur = link(s.block.get(i), cur, behindLoop);
          }
          return cur;
        case "int":
          return after;
        case "if":
          s.inside = link(s.body, after, behindLoop);
          s.otherwise = s.other == null ? after : link(s.other, after, behindLoop);
          return s;
        case "while":
          s.next = after;
          s.inside = link(s.body, s, after);
          return s;
        case "break":
          s.next = behindLoop;
          return s;
        default:
          s.next = after;
          return s;
      }
    }

    void tell() {
      if (!isName()) {
        throw new Misformed(at);
      }
      def.told.add(now() - 20);
      def.toldPlaces.add(at);
      at++;
    }

    Def definition() {
      if (!isFunction()) {
        throw new Misformed(at);
      }
      def = new Def();
      def.function = now() - 30;
      def.place = at;
      at++;
      need("(");
      if (isName()) {
        def.parameters.add(now() - 20);
        tell();
        while (sign().equals(",")) {
          at++;
          if (isName()) {
            def.parameters.add(now() - 20);
          }
          tell();
        }
      }
      need(")");
      if (!sign().equals("{")) {
        throw new Misformed(at);
      }
      def.body = statement();
      return def;
    }

    Stmt statement() {
      Stmt s = new Stmt();
      s.place = at;
      String sign = sign();
      s.kind = sign;
      switch (sign) {
        case "{":
          at++;
          s.kind = "block";
          s.block = new ArrayList<>();
          while (!sign().equals("}")) {
            s.block.add(statement());
          }
          at++;
          return s;
        case "int":
          at++;
          tell();
          break;
        case ";":
          break;
        case "if":
        case "while":
          at++;
          need("(");
          s.value = expression(0);
          need(")");
          s.body = statement();
          if (sign.equals("if") && sign().equals("else")) {
            at++;
            s.other = statement();
          }
          return s;
        case "break":
          at++;
          break;
        case "return":
          at++;
          if (!sign().equals(";")) {
            s.value = expression(0);
          }
          break;
        case "*":
          at++;
          s.kind = "store";
          s.address = unary();
          need("=");
          s.value = expression(0);
          break;
        default:
          simple(s);
          break;
      }
      need(";");
      return s;
    }

    void simple(Stmt s) {
      if (isFunction() || isService()) {
        s.kind = "call";
        call(s);
      } else if (isName()) {
        s.name = now() - 20;
        at++;
        need("=");
        if (isFunction() || isService()) {
          s.kind = "call";
          call(s);
        } else {
          s.kind = "set";
          s.value = expression(0);
        }
      } else if (now() == 28 || now() == 29) {
        s.kind = "store";
        int base = now() == 28 ? 16 : 24;
        at++;
        need("[");
        s.address = new Expr("+", 0, at, new Expr("number", base, at, null, null), expression(0));
        need("]");
        need("=");
        s.value = expression(0);
      } else {
        throw new Misformed(at);
      }
    }

    void call(Stmt s) {
      s.called = now();
      s.calledPlace = at;
      at++;
      need("(");
      if (!sign().equals(")")) {
        s.arguments.add(expression(0));
        while (sign().equals(",")) {
          at++;
          s.arguments.add(expression(0));
        }
      }
      need(")");
    }

    static final String[][] LEVELS = {{"||"}, {"&&"}, {"==", "!="}, {"<", ">"}, {"+", "-"}, {"*", "/", "%"}};

    Expr expression(int level) {
      if (level == LEVELS.length) {
        return unary();
      }
      Expr left = expression(level + 1);
      while (Arrays.asList(LEVELS[level]).contains(sign())) {
        String op = sign();
        at++;
        left = new Expr(op, 0, at, left, expression(level + 1));
      }
      return left;
    }

    Expr unary() {
      int place = at;
      String sign = sign();
      if (sign.equals("-") || sign.equals("!") || sign.equals("*")) {
        at++;
        return new Expr("unary" + sign, 0, place, unary(), null);
      }
      if (sign.equals("&")) {
        at++;
        if (!isName()) {
          throw new Misformed(at);
        }
        at++;
        return new Expr("address", t[at - 1] - 20, at - 1, null, null);
      }
      if (sign.equals("(")) {
        at++;
        Expr e = expression(0);
        need(")");
        return e;
      }
      if (now() >= 0 && now() < 20) {
        at++;
        return new Expr("number", t[at - 1], place, null, null);
      }
      if (isName()) {
        at++;
        return new Expr("name", t[at - 1] - 20, place, null, null);
      }
      if (now() == 28 || now() == 29) {
        int base = now() == 28 ? 16 : 24;
        at++;
        Expr row = new Expr("number", base, place, null, null);
        if (!sign().equals("[")) {
          return row;
        }
        at++;
        Expr sum = new Expr("+", 0, place, row, expression(0));
        need("]");
        return new Expr("unary*", 0, place, sum, null);
      }
      throw new Misformed(at);
    }
  }

  // ---- the model

  private static final class Frame {
    Def def;
    int[] names = new int[8];
    Stmt call;
    Stmt back;
    boolean isHandler;
  }

  private static final class Body {
    List<Integer> cells = new ArrayList<>();
  }

  private static final class Pipe {
    List<Integer> cells = new ArrayList<>();
  }

  private static final class Opening {
    Body body;
    int position;
    int mode;
    Pipe pipe;
    boolean isWriting;
  }

  private static final class Proc {
    int pid;
    int parent;
    int slot;
    int state = 1;
    int program;
    Prog prog;
    int end = 32;
    int ticks;
    int code;
    int why;
    int idle;
    int framesAtEnd;
    boolean[] signals = new boolean[4];
    int held;
    int[] handlers = new int[3];
    Map<Integer, Integer> cells = new HashMap<>();
    List<Frame> frames = new ArrayList<>();
    Stmt at;
    List<Integer> told = new ArrayList<>();
    Opening[] open = new Opening[6];

    boolean isLive() {
      return state == 1 || state == 2;
    }

    Frame top() {
      return frames.get(frames.size() - 1);
    }

    boolean isOwn(int address) {
      return address >= 8 && address < end;
    }

    int load(int address) {
      if (!isOwn(address)) {
        throw new Trap(1);
      }
      return cells.getOrDefault(address, 0);
    }

    void put(int address, int value) {
      if (!isOwn(address)) {
        throw new Trap(1);
      }
      cells.put(address, value);
    }

    int due() {
      if (signals[3]) {
        return 3;
      }
      return held != 0 ? 0 : signals[1] ? 1 : signals[2] ? 2 : 0;
    }
  }

  /** The document, said once more in its plainest way. */
  public static final class Model {
    private final List<List<Integer>> texts = new ArrayList<>();
    private final Prog[] progs = new Prog[4];
    private final List<Proc> procs = new ArrayList<>();
    private int turn = NONE;
    private int lastSlot;
    private int used;
    private int quantum = 3;
    private int ticks;
    private int crashes;
    private int knocks;
    private int frames = 12;
    private int level;
    private boolean hasPaused;
    private List<Integer> inputs = new ArrayList<>();
    private final List<int[]> outs = new ArrayList<>();
    private final Pipe[] pipes = new Pipe[4];
    private Map<Integer, Body> files = new TreeMap<>();
    private final List<Map<Integer, List<Integer>>> behind = new ArrayList<>();

    public Model() {
      for (int i = 0; i < 4; i++) {
        texts.add(new ArrayList<>());
      }
      behind.add(picture());
    }

    private static final String[] SAMPLES = {
      "F ( ) { int a ; while ( a < 3 ) { put ( a ) ; a = a + 1 ; } }",
      "G ( a ) { int b ; if ( a < 2 ) return 1 ; b = G ( a - 1 ) ; return a * b ; } F ( ) { a = G ( 5 ) ; put ( a ) ; }",
      "F ( ) { int b ; a = 7 ; b = fork ( ) ; if ( b == 0 ) { a = a + 1 ; put ( a ) ; exit ( 3 ) ; } wait ( & c ) ; put ( a ) ; put ( c ) ; }",
      "F ( ) { int b ; pipe ( x ) ; b = fork ( ) ; if ( ! b ) { close ( x [ 0 ] ) ; while ( b < 6 ) { write ( x [ 1 ] , b * b ) ; b = b + 1 ; } exit ( 0 ) ; } close ( x [ 1 ] ) ; while ( 1 ) { b = read ( x [ 0 ] , & a ) ; if ( b < 1 ) break ; put ( a ) ; } }",
      "F ( ) { int b ; b = open ( 3 , 2 ) ; write ( b , 11 ) ; write ( b , 12 ) ; sync ( ) ; close ( b ) ; b = open ( 3 , 3 ) ; write ( b , 13 ) ; unlink ( 4 ) ; b = open ( 3 , 0 ) ; c = read ( b , & a ) ; while ( c ) { put ( a ) ; c = read ( b , & a ) ; } }",
      "H ( a ) { put ( a + 10 ) ; c = c + 1 ; } F ( ) { on ( 1 , 2 ) ; on ( 2 , 2 ) ; while ( c < 2 ) pause ( ) ; put ( c ) ; }",
      "F ( ) { int b ; b = grow ( 8 ) ; y [ 8 ] = 9 ; put ( * b ) ; b = b + 7 ; * b = a / 2 ; * ( b + 1 ) = 1 ; }",
      "G ( a ) { int b ; b = fork ( ) ; if ( a > 1 && b ) b = G ( a - 1 ) ; x [ a ] = a ; return b ; } F ( ) { int a ; a = G ( 3 ) ; while ( 0 < a ) a = wait ( 0 ) ; put ( x [ 1 ] + x [ 2 ] * 10 ) ; exec ( 0 ) ; }"
    };

    private static void index(int i, int many) {
      if (i < 0 || i >= many) {
        throw new IndexOutOfBoundsException();
      }
    }

    private static void argument(boolean isRight) {
      if (!isRight) {
        throw new IllegalArgumentException();
      }
    }

    private static void possible(boolean isRight) {
      if (!isRight) {
        throw new IllegalStateException();
      }
    }

    private static boolean in(int v, int low, int high) {
      return v >= low && v <= high;
    }

    // programs

    public int type(int program, int a, int b, int c, int d, int e) {
      index(program, 4);
      List<Integer> more = new ArrayList<>();
      boolean isOver = false;
      for (int token : new int[] {a, b, c, d, e}) {
        argument(in(token, -1, 79));
        isOver = isOver || token == NONE;
        if (!isOver) {
          more.add(token);
        }
      }
      possible(texts.get(program).size() + more.size() <= 160);
      texts.get(program).addAll(more);
      progs[program] = null;
      return texts.get(program).size();
    }

    public int drop(int program, int many) {
      index(program, 4);
      List<Integer> text = texts.get(program);
      argument(in(many, 0, text.size()));
      for (int i = 0; i < many; i++) {
        text.remove(text.size() - 1);
      }
      progs[program] = null;
      return text.size();
    }

    public int sample(int program, int k) {
      index(program, 4);
      argument(in(k, 0, 7));
      List<Integer> text = texts.get(program);
      text.clear();
      for (int token : tokens(SAMPLES[k])) {
        text.add(token);
      }
      progs[program] = null;
      return text.size();
    }

    public int change(int program, int place, int token) {
      index(program, 4);
      index(place, texts.get(program).size());
      argument(in(token, 0, 79));
      progs[program] = null;
      return texts.get(program).set(place, token);
    }

    public int length(int program) {
      index(program, 4);
      return texts.get(program).size();
    }

    public int token(int program, int place) {
      index(program, 4);
      index(place, texts.get(program).size());
      return texts.get(program).get(place);
    }

    public String text(int program) {
      index(program, 4);
      List<String> words = new ArrayList<>();
      for (int token : texts.get(program)) {
        words.add(SIGNS[token]);
      }
      return String.join(" ", words);
    }

    private Prog prog(int program) {
      if (progs[program] == null) {
        int[] t = new int[texts.get(program).size()];
        for (int i = 0; i < t.length; i++) {
          t[i] = texts.get(program).get(i);
        }
        progs[program] = new Parser(t).parse();
      }
      return progs[program];
    }

    public int error(int program) {
      index(program, 4);
      return prog(program).error;
    }

    public int kind(int program) {
      index(program, 4);
      return prog(program).kind;
    }

    public int isLocal(int program, int function, int name) {
      index(program, 4);
      index(function, 4);
      index(name, 8);
      Prog p = prog(program);
      if (p.kind != 0 || !p.defs.containsKey(function)) {
        return NONE;
      }
      return p.defs.get(function).told.contains(name) ? 1 : 0;
    }

    // processes

    private Proc proc(int pid) {
      return pid >= 1 && pid <= procs.size() ? procs.get(pid - 1) : null;
    }

    private Proc given(int pid) {
      if (proc(pid) == null) {
        throw new IndexOutOfBoundsException();
      }
      return proc(pid);
    }

    private Proc inSlot(int slot) {
      for (Proc p : procs) {
        if (p.state != 4 && p.slot == slot) {
          return p;
        }
      }
      return null;
    }

    private int freeSlot() {
      for (int i = 0; i < 6; i++) {
        if (inSlot(i) == null) {
          return i;
        }
      }
      return NONE;
    }

    private boolean canBegin() {
      return freeSlot() != NONE && procs.size() < 60;
    }

    private void lay(Proc p, Def def, List<Integer> values, Stmt call, Stmt back, boolean isHandler) {
      if (p.frames.size() >= 12) {
        throw new Trap(3);
      }
      Frame f = new Frame();
      f.def = def;
      f.call = call;
      f.back = back;
      f.isHandler = isHandler;
      for (int i = 0; i < values.size(); i++) {
        f.names[def.parameters.get(i)] = values.get(i);
      }
      p.frames.add(f);
      p.at = def.first;
    }

    public int start(int program) {
      index(program, 4);
      possible(canBegin());
      if (prog(program).kind != 0) {
        return -9;
      }
      Proc p = new Proc();
      p.slot = freeSlot();
      p.pid = procs.size() + 1;
      procs.add(p);
      p.program = program;
      p.prog = prog(program);
      lay(p, p.prog.defs.get(0), List.of(), null, null, false);
      goOn(p);
      return p.pid;
    }

    private void goOn(Proc p) {
      while (p.isLive() && p.at == null) {
        giveBack(p, 0);
      }
    }

    private void giveBack(Proc p, int value) {
      if (p.frames.size() == 1) {
        end(p, value, 1);
        return;
      }
      Frame f = p.frames.remove(p.frames.size() - 1);
      if (f.isHandler) {
        p.held = 0;
        p.at = f.back;
      } else {
        tellTo(p, f.call, value);
        p.at = f.call.next;
      }
    }

    private void tellTo(Proc p, Stmt call, int value) {
      if (call.name != NONE) {
        setName(p, call.name, value);
      }
    }

    private void setName(Proc p, int name, int value) {
      if (p.top().def.told.contains(name)) {
        p.top().names[name] = value;
      } else {
        p.put(8 + name, value);
      }
    }

    private void end(Proc p, int code, int why) {
      p.framesAtEnd = p.frames.size();
      p.code = code;
      p.why = why;
      for (int i = 0; i < 6; i++) {
        close(p, i);
      }
      for (Proc child : procs) {
        if (child.parent == p.pid) {
          child.parent = 0;
          if (child.state == 3) {
            child.state = 4;
          }
        }
      }
      p.state = p.parent == 0 ? 4 : 3;
      p.at = null;
    }

    private int reckon(Proc p, Expr e) {
      switch (e.op) {
        case "number":
          return e.value;
        case "name":
          return p.top().def.told.contains(e.value) ? p.top().names[e.value] : p.load(8 + e.value);
        case "address":
          return 8 + e.value;
        case "unary-":
          return -reckon(p, e.left);
        case "unary!":
          return reckon(p, e.left) == 0 ? 1 : 0;
        case "unary*":
          return p.load(reckon(p, e.left));
        case "||":
          return reckon(p, e.left) != 0 ? 1 : reckon(p, e.right) != 0 ? 1 : 0;
        case "&&":
          return reckon(p, e.left) == 0 ? 0 : reckon(p, e.right) != 0 ? 1 : 0;
        default:
          break;
      }
      int a = reckon(p, e.left);
      int b = reckon(p, e.right);
      switch (e.op) {
        case "==": return a == b ? 1 : 0;
        case "!=": return a != b ? 1 : 0;
        case "<": return a < b ? 1 : 0;
        case ">": return a > b ? 1 : 0;
        case "+": return a + b;
        case "-": return a - b;
        case "*": return a * b;
        default: break;
      }
      if (b == 0) {
        throw new Trap(2);
      }
      int quotient = (int) ((long) a / (long) b);
      return e.op.equals("/") ? quotient : a - quotient * b;
    }

    private boolean canGoOn(Proc p) {
      return p.state == 1 || p.state == 2 && (p.due() != 0 || !mustWait(p));
    }

    private Proc next() {
      Proc t = proc(turn);
      if (t != null && canGoOn(t) && used < quantum) {
        return t;
      }
      for (int i = 0; i < 6; i++) {
        Proc p = inSlot(((turn == NONE ? 0 : lastSlot + 1) + i) % 6);
        if (p != null && canGoOn(p)) {
          return p;
        }
      }
      return null;
    }

    private boolean tick() {
      Proc p = next();
      if (p == null) {
        return false;
      }
      for (Proc q : procs) {
        if (q != p) {
          q.idle = canGoOn(q) ? q.idle + 1 : 0;
        }
      }
      p.idle = 0;
      if (!(p.pid == turn && used < quantum)) {
        used = 0;
      }
      turn = p.pid;
      lastSlot = p.slot;
      used++;
      ticks++;
      p.ticks++;
      hasPaused = false;
      try {
        tickOf(p);
      } catch (Trap t) {
        end(p, 200 + t.number, 1 + t.number);
      }
      if (hasPaused) {
        used = quantum;
      }
      return true;
    }

    private void tickOf(Proc p) {
      int signal = p.due();
      if (p.state == 2) {
        if (signal != 0) {
          p.state = 1;
          tellAndGoOn(p, p.at, -1);
        } else {
          serve(p);
        }
      } else if (signal != 0) {
        take(p, signal);
      } else {
        begin(p);
      }
    }

    private void take(Proc p, int signal) {
      if (signal == 3 || p.handlers[signal] == 0) {
        end(p, 100 + signal, 5);
        return;
      }
      p.signals[signal] = false;
      lay(p, p.prog.defs.get(p.handlers[signal]), List.of(signal), null, p.at, true);
      p.held = signal;
      goOn(p);
    }

    private void begin(Proc p) {
      Stmt s = p.at;
      switch (s.kind) {
        case "if":
          p.at = reckon(p, s.value) != 0 ? s.inside : s.otherwise;
          break;
        case "while":
          p.at = reckon(p, s.value) != 0 ? s.inside : s.next;
          break;
        case "return":
          giveBack(p, s.value == null ? 0 : reckon(p, s.value));
          break;
        case "set":
          setName(p, s.name, reckon(p, s.value));
          p.at = s.next;
          break;
        case "store":
          int address = reckon(p, s.address);
          int value = reckon(p, s.value);
          p.put(address, value);
          p.at = s.next;
          break;
        case "call":
          p.told = new ArrayList<>();
          for (Expr e : s.arguments) {
            p.told.add(reckon(p, e));
          }
          if (s.called >= 62) {
            serve(p);
            return;
          }
          lay(p, p.prog.defs.get(s.called - 30), p.told, s, null, false);
          break;
        default:
          p.at = s.next;
          break;
      }
      goOn(p);
    }

    private void tellAndGoOn(Proc p, Stmt call, int value) {
      tellTo(p, call, value);
      p.at = call.next;
      goOn(p);
    }

    private boolean leads(Pipe pipe, boolean isWriting) {
      return count(pipe, isWriting) > 0;
    }

    private int count(Pipe pipe, boolean isWriting) {
      int n = 0;
      for (Proc p : procs) {
        for (Opening o : p.open) {
          if (o != null && o.pipe == pipe && o.isWriting == isWriting) {
            n++;
          }
        }
      }
      return n;
    }

    private List<Proc> childrenOf(Proc p) {
      List<Proc> found = new ArrayList<>();
      for (Proc q : procs) {
        if (q.parent == p.pid && q.state != 4) {
          found.add(q);
        }
      }
      return found;
    }

    private Opening opening(Proc p, int d) {
      return in(d, 0, 5) ? p.open[d] : null;
    }

    private boolean mustWait(Proc p) {
      String service = SIGNS[p.at.called];
      if (service.equals("get")) {
        return inputs.isEmpty();
      }
      if (service.equals("wait")) {
        boolean hasEnded = false;
        for (Proc q : childrenOf(p)) {
          hasEnded = hasEnded || q.state == 3;
        }
        return !childrenOf(p).isEmpty() && !hasEnded;
      }
      if (service.equals("read")) {
        Opening o = opening(p, p.told.get(0));
        return o != null && o.pipe != null && !o.isWriting && o.pipe.cells.isEmpty() && leads(o.pipe, true);
      }
      if (service.equals("write")) {
        Opening o = opening(p, p.told.get(0));
        return o != null && o.pipe != null && o.isWriting && o.pipe.cells.size() == 4 && leads(o.pipe, false);
      }
      return false;
    }

    private void own(Proc p, int address) {
      if (!p.isOwn(address)) {
        throw new Trap(1);
      }
    }

    private void serve(Proc p) {
      Stmt call = p.at;
      String service = SIGNS[call.called];
      int a = p.told.size() > 0 ? p.told.get(0) : 0;
      int b = p.told.size() > 1 ? p.told.get(1) : 0;
      if (service.equals("wait") && a != 0 || service.equals("pipe") || service.equals("get")) {
        own(p, a);
      }
      if (service.equals("pipe")) {
        own(p, a + 1);
      }
      if (service.equals("read")) {
        own(p, b);
      }
      if (mustWait(p)) {
        p.state = 2;
        return;
      }
      p.state = 1;
      switch (service) {
        case "fork":
          fork(p, call);
          return;
        case "exec":
          if (in(a, 0, 3) && prog(a).kind == 0) {
            p.program = a;
            p.prog = prog(a);
            p.cells.clear();
            p.end = 32;
            p.frames.clear();
            p.held = 0;
            p.handlers = new int[3];
            lay(p, p.prog.defs.get(0), List.of(), null, null, false);
            goOn(p);
            return;
          }
          tellAndGoOn(p, call, -1);
          return;
        case "exit":
          end(p, a, 1);
          return;
        default:
          tellAndGoOn(p, call, answer(p, service, a, b));
          return;
      }
    }

    private void fork(Proc p, Stmt call) {
      if (!canBegin()) {
        tellAndGoOn(p, call, -1);
        return;
      }
      Proc c = new Proc();
      c.slot = freeSlot();
      c.pid = procs.size() + 1;
      procs.add(c);
      c.parent = p.pid;
      c.program = p.program;
      c.prog = p.prog;
      c.end = p.end;
      c.held = p.held;
      c.handlers = p.handlers.clone();
      c.cells = new HashMap<>(p.cells);
      c.open = p.open.clone();
      for (Frame f : p.frames) {
        Frame copy = new Frame();
        copy.def = f.def;
        copy.names = f.names.clone();
        copy.call = f.call;
        copy.back = f.back;
        copy.isHandler = f.isHandler;
        c.frames.add(copy);
      }
      tellAndGoOn(c, call, 0);
      tellAndGoOn(p, call, c.pid);
    }

    private int freeDescriptor(Proc p) {
      for (int i = 0; i < 6; i++) {
        if (p.open[i] == null) {
          return i;
        }
      }
      return NONE;
    }

    private int answer(Proc p, String service, int a, int b) {
      switch (service) {
        case "wait":
          for (Proc q : childrenOf(p)) {
            if (q.state == 3) {
              q.state = 4;
              if (a != 0) {
                p.put(a, q.code);
              }
              return q.pid;
            }
          }
          return -1;
        case "pipe":
          return pipe(p, a);
        case "read":
          return read(p, opening(p, a), b);
        case "write":
          return write(opening(p, a), b);
        case "open":
          return open(p, a, b);
        case "close":
          return close(p, a) ? 0 : -1;
        case "unlink":
          return unlink(a) ? 0 : -1;
        case "kill":
          if (!in(b, 1, 3) || proc(a) == null || !proc(a).isLive()) {
            return -1;
          }
          proc(a).signals[b] = true;
          return 0;
        case "on":
          if (!in(a, 1, 2) || !in(b, 0, 3) || b > 0 && (!p.prog.defs.containsKey(b) || p.prog.defs.get(b).parameters.size() != 1)) {
            return -1;
          }
          int before = p.handlers[a];
          p.handlers[a] = b;
          return before;
        case "put":
          outs.add(new int[] {p.pid, a});
          return a;
        case "get":
          p.put(a, inputs.remove(0));
          return 1;
        case "grow":
          long end = (long) p.end + a;
          if (end < 32 || end > 96) {
            return -1;
          }
          int old = p.end;
          p.end = (int) end;
          p.cells.keySet().removeIf(k -> k >= Math.min(old, p.end) && k < Math.max(old, p.end));
          return old;
        case "pid":
          return p.pid;
        case "pause":
          hasPaused = true;
          return 0;
        default:
          return sync();
      }
    }

    private int pipe(Proc p, int a) {
      int free = 0;
      for (Opening o : p.open) {
        free += o == null ? 1 : 0;
      }
      int k = 0;
      while (k < 4 && pipes[k] != null) {
        k++;
      }
      if (free < 2 || k == 4) {
        return -1;
      }
      pipes[k] = new Pipe();
      for (int i = 0; i < 2; i++) {
        int d = freeDescriptor(p);
        p.open[d] = new Opening();
        p.open[d].pipe = pipes[k];
        p.open[d].isWriting = i == 1;
        p.put(a + i, d);
      }
      return 0;
    }

    private int read(Proc p, Opening o, int a) {
      if (o == null || o.pipe != null && o.isWriting || o.body != null && o.mode != 0) {
        return -1;
      }
      if (o.pipe != null) {
        if (o.pipe.cells.isEmpty()) {
          return 0;
        }
        p.put(a, o.pipe.cells.remove(0));
        return 1;
      }
      if (o.position >= o.body.cells.size()) {
        return 0;
      }
      p.put(a, o.body.cells.get(o.position));
      o.position++;
      return 1;
    }

    private int write(Opening o, int v) {
      if (o == null || o.pipe != null && !o.isWriting || o.body != null && o.mode == 0) {
        return -1;
      }
      if (o.pipe != null) {
        if (!leads(o.pipe, false)) {
          return -1;
        }
        o.pipe.cells.add(v);
        return 1;
      }
      if (o.mode == 3) {
        o.position = o.body.cells.size();
      }
      if (o.position == 16) {
        return -1;
      }
      if (o.position == o.body.cells.size()) {
        o.body.cells.add(v);
      } else {
        o.body.cells.set(o.position, v);
      }
      o.position++;
      act();
      return 1;
    }

    private int bodies() {
      List<Body> all = new ArrayList<>(files.values());
      for (Proc p : procs) {
        for (Opening o : p.open) {
          if (o != null && o.body != null && !all.contains(o.body)) {
            all.add(o.body);
          }
        }
      }
      return all.size();
    }

    private int open(Proc p, int n, int m) {
      int d = freeDescriptor(p);
      if (!in(n, 0, 7) || !in(m, 0, 3) || d == NONE) {
        return -1;
      }
      if (!files.containsKey(n)) {
        if (m == 0 || bodies() == 12) {
          return -1;
        }
        files.put(n, new Body());
        act();
      }
      Opening o = new Opening();
      o.body = files.get(n);
      o.mode = m;
      p.open[d] = o;
      if (m == 2 && !o.body.cells.isEmpty()) {
        o.body.cells.clear();
        for (Proc q : procs) {
          for (Opening other : q.open) {
            if (other != null && other.body == o.body) {
              other.position = 0;
            }
          }
        }
        act();
      }
      return d;
    }

    private boolean close(Proc p, int d) {
      Opening o = opening(p, d);
      if (o == null) {
        return false;
      }
      p.open[d] = null;
      for (int i = 0; i < 4; i++) {
        if (pipes[i] != null && !leads(pipes[i], false) && !leads(pipes[i], true)) {
          pipes[i] = null;
        }
      }
      return true;
    }

    private boolean unlink(int n) {
      if (!files.containsKey(n)) {
        return false;
      }
      files.remove(n);
      act();
      return true;
    }

    // files behind each act

    private Map<Integer, List<Integer>> picture() {
      Map<Integer, List<Integer>> all = new TreeMap<>();
      files.forEach((n, body) -> all.put(n, new ArrayList<>(body.cells)));
      return all;
    }

    private void act() {
      behind.add(picture());
      if (behind.size() == 21) {
        sync();
      }
    }

    public int sync() {
      int had = behind.size() - 1;
      behind.clear();
      behind.add(picture());
      return had;
    }

    // what is told

    public int run(int many) {
      argument(in(many, 1, 200));
      int had = 0;
      while (had < many && tick()) {
        had++;
      }
      return had;
    }

    public int step() {
      return tick() ? turn : NONE;
    }

    public int quantum(int q) {
      argument(in(q, 1, 10));
      int before = quantum;
      quantum = q;
      return before;
    }

    public int send(int pid, int signal) {
      argument(in(signal, 1, 3));
      if (proc(pid) == null || !proc(pid).isLive()) {
        return 0;
      }
      proc(pid).signals[signal] = true;
      return 1;
    }

    public int state(int pid) {
      return proc(pid) == null ? 0 : proc(pid).state;
    }

    public int ofProcess(int pid, int what) {
      Proc p = given(pid);
      argument(in(what, 0, 11));
      int open = 0;
      for (Opening o : p.open) {
        open += o == null ? 0 : 1;
      }
      switch (what) {
        case 0: return p.parent;
        case 1: return p.isLive() ? p.frames.size() : p.framesAtEnd;
        case 2: return p.end;
        case 3: return p.isLive() ? (p.signals[1] ? 1 : 0) + (p.signals[2] ? 2 : 0) + (p.signals[3] ? 4 : 0) : 0;
        case 4: return p.isLive() ? p.held : 0;
        case 5: return p.program;
        case 6: return p.ticks;
        case 7: return p.code;
        case 8: return p.why;
        case 9: return p.isLive() ? open : 0;
        case 10: return p.isLive() ? p.idle : 0;
        default: return p.state == 4 ? NONE : p.slot;
      }
    }

    public boolean can(int pid) {
      return canGoOn(given(pid));
    }

    public int where(int pid) {
      return given(pid).isLive() ? given(pid).at.place : NONE;
    }

    public String cell(int pid, int address) {
      Proc p = given(pid);
      return p.isLive() && p.isOwn(address) ? "" + p.load(address) : "-";
    }

    public String local(int pid, int frame, int name) {
      Proc p = given(pid);
      index(name, 8);
      if (!p.isLive() || !in(frame, 0, p.frames.size() - 1) || !p.frames.get(frame).def.told.contains(name)) {
        return "-";
      }
      return "" + p.frames.get(frame).names[name];
    }

    public int function(int pid, int frame) {
      Proc p = given(pid);
      return p.isLive() && in(frame, 0, p.frames.size() - 1) ? p.frames.get(frame).def.function : NONE;
    }

    public String descriptor(int pid, int d) {
      Proc p = given(pid);
      index(d, 6);
      Opening o = p.open[d];
      if (o == null) {
        return "-";
      }
      if (o.pipe != null) {
        return (o.isWriting ? "w" : "r") + Arrays.asList(pipes).indexOf(o.pipe);
      }
      String name = "-";
      for (int n : files.keySet()) {
        if (files.get(n) == o.body) {
          name = "" + n;
        }
      }
      return "f" + name + "@" + o.position + ":" + o.mode;
    }

    public String children(int pid) {
      List<String> all = new ArrayList<>();
      for (Proc q : childrenOf(given(pid))) {
        all.add("" + q.pid);
      }
      return String.join(" ", all);
    }

    public int waitsIn(int pid) {
      return given(pid).state == 2 ? given(pid).at.called : NONE;
    }

    public int handler(int pid, int signal) {
      Proc p = given(pid);
      argument(in(signal, 1, 2));
      return p.isLive() ? p.handlers[signal] : NONE;
    }

    public int turn(int what) {
      argument(in(what, 0, 2));
      if (what == 0) {
        return turn;
      }
      if (what == 1) {
        return turn == NONE ? 0 : used;
      }
      return next() == null ? NONE : next().pid;
    }

    public int give(int value) {
      possible(inputs.size() < 10);
      inputs.add(value);
      return inputs.size();
    }

    private static String joined(List<Integer> values, String between) {
      List<String> words = new ArrayList<>();
      for (int v : values) {
        words.add("" + v);
      }
      return String.join(between, words);
    }

    public String inputs() {
      return joined(inputs, " ");
    }

    public String out(int from) {
      argument(from >= 0);
      List<String> words = new ArrayList<>();
      for (int i = from; i < outs.size() && words.size() < 20; i++) {
        words.add(outs.get(i)[0] + ":" + outs.get(i)[1]);
      }
      return String.join(" ", words);
    }

    public int ofPipe(int pipe, int what) {
      index(pipe, 4);
      argument(in(what, 0, 2));
      if (pipes[pipe] == null) {
        return NONE;
      }
      return what == 0 ? pipes[pipe].cells.size() : count(pipes[pipe], what == 2);
    }

    public String inPipe(int pipe) {
      index(pipe, 4);
      return pipes[pipe] == null ? "-" : joined(pipes[pipe].cells, " ");
    }

    public int store(int name, int value) {
      index(name, 8);
      if (!files.containsKey(name)) {
        if (bodies() == 12) {
          return -9;
        }
        files.put(name, new Body());
        act();
      }
      List<Integer> cells = files.get(name).cells;
      if (cells.size() == 16) {
        return -9;
      }
      cells.add(value);
      act();
      return cells.size();
    }

    public int remove(int name) {
      index(name, 8);
      return unlink(name) ? 1 : 0;
    }

    public int size(int name) {
      index(name, 8);
      return files.containsKey(name) ? files.get(name).cells.size() : NONE;
    }

    public String inFile(int name) {
      index(name, 8);
      return files.containsKey(name) ? joined(files.get(name).cells, " ") : "-";
    }

    private int crashTo(Map<Integer, List<Integer>> picture) {
      for (Proc p : procs) {
        p.parent = 0;
      }
      for (Proc p : procs) {
        if (p.isLive()) {
          end(p, 0, 6);
        }
        p.state = 4;
      }
      inputs = new ArrayList<>();
      turn = NONE;
      crashes++;
      files = new TreeMap<>();
      picture.forEach((n, cells) -> {
        files.put(n, new Body());
        files.get(n).cells.addAll(cells);
      });
      behind.clear();
      behind.add(picture());
      return files.size();
    }

    public int crash(int n, boolean isTorn) {
      argument(in(n, 0, behind.size() - 1));
      return crashTo(behind.get(n));
    }

    public int halted(int k) {
      argument(in(k, 0, 99));
      return crashTo(picture());
    }

    public String would(int n) {
      argument(in(n, 0, behind.size() - 1));
      StringBuilder all = new StringBuilder();
      behind.get(n).forEach((name, cells) -> all.append(name).append('=').append(joined(cells, ",")).append(';'));
      return all.toString();
    }

    public int frames(int many) {
      argument(in(many, 8, 40));
      int before = frames;
      frames = many;
      return before;
    }

    public int level(int l) {
      argument(in(l, 0, 2));
      int before = level;
      level = l;
      return before;
    }

    public int press(int pid) {
      return proc(pid) != null && proc(pid).isLive() ? 1 : 0;
    }

    public int house(int what) {
      argument(in(what, 0, 13));
      int housed = 0;
      int able = 0;
      List<Opening> openings = new ArrayList<>();
      for (Proc p : procs) {
        housed += p.state == 4 ? 0 : 1;
        able += canGoOn(p) ? 1 : 0;
        for (Opening o : p.open) {
          if (o != null && !openings.contains(o)) {
            openings.add(o);
          }
        }
      }
      int piped = 0;
      for (Pipe pipe : pipes) {
        piped += pipe == null ? 0 : 1;
      }
      int[] told = {housed, able, piped, files.size(), bodies(), behind.size() - 1, ticks, quantum, procs.size(), inputs.size(), outs.size(),
          crashes, knocks, openings.size()};
      return told[what];
    }

    public int knock() {
      knocks++;
      return knocks;
    }

    public boolean isSound() {
      return true;
    }

    private static long mix(long d, Object v) {
      if (v instanceof String) {
        long mixed = d;
        for (char c : ((String) v).toCharArray()) {
          mixed = mixed * 31 + c;
        }
        return mixed;
      }
      return d * 31 + (Integer) v;
    }

    public long digest() {
      List<Object> all = new ArrayList<>();
      for (int i = 0; i <= 13; i++) {
        all.add(house(i));
      }
      for (int i = 0; i <= 2; i++) {
        all.add(turn(i));
      }
      for (int i = 0; i < 4; i++) {
        all.add(error(i));
        all.add(kind(i));
      }
      for (Proc p : procs) {
        all.add(p.state);
        for (int i = 0; i <= 11; i++) {
          all.add(ofProcess(p.pid, i));
        }
        all.add(where(p.pid));
        if (p.isLive()) {
          for (int i = 8; i <= 95; i++) {
            all.add(cell(p.pid, i));
          }
          for (int f = 0; f < p.frames.size(); f++) {
            all.add(function(p.pid, f));
            for (int n = 0; n < 8; n++) {
              all.add(local(p.pid, f, n));
            }
          }
          for (int i = 0; i < 6; i++) {
            all.add(descriptor(p.pid, i));
          }
        }
      }
      for (int i = 0; i < 4; i++) {
        all.add(inPipe(i));
      }
      all.add(would(0));
      all.add(would(behind.size() - 1));
      all.add(out(Math.max(0, outs.size() - 20)));
      all.add(1);
      long d = 7605;
      for (Object v : all) {
        d = mix(d, v);
      }
      return d;
    }
  }

  // ---- what is drawn for a run

  private static final class Dice {
    private long seed;

    Dice(long seed) {
      this.seed = seed * 0x9E3779B97F4A7C15L + 12345;
    }

    int below(int n) {
      seed = seed * 6364136223846793005L + 1442695040888963407L;
      return (int) ((seed >>> 33) % n);
    }

    boolean isOne(int of) {
      return below(of) == 0;
    }

    String pick(String... words) {
      return words[below(words.length)];
    }
  }

  /** Programs of the form, mostly with a meaning. */
  private static final class Writer {
    final Dice dice;
    final StringBuilder words = new StringBuilder();
    int left = 150;
    int loops;
    String defined;
    int[] takes = new int[4];
    boolean isPlain;

    Writer(Dice dice) {
      this.dice = dice;
    }

    void put(String text) {
      words.append(' ').append(text);
      left -= text.split(" ").length;
    }

    /** Programs that have PROCESSES meet: # stands for a number. */
    static final String[] MEETINGS = {
      // one writes, the other reads, each as fast as it gets its turn
      "F ( ) { int b ; pipe ( x ) ; b = fork ( ) ; if ( b ) { close ( x [ 0 ] ) ; while ( c < # ) { d = write ( x [ 1 ] , c ) ; c = c + 1 ; if ( c % 5 == # ) pause ( ) ; } close ( x [ 1 ] ) ; d = wait ( & e ) ; put ( e ) ; } else { close ( x [ 1 ] ) ; while ( c < # ) c = c + 1 ; } }",
      "F ( ) { int b ; pipe ( x ) ; b = fork ( ) ; if ( b ) { close ( x [ 0 ] ) ; while ( c < # ) { d = write ( x [ 1 ] , c ) ; c = c + 1 ; if ( c % 5 == # ) pause ( ) ; } close ( x [ 1 ] ) ; d = wait ( & e ) ; put ( e ) ; } else { close ( x [ 1 ] ) ; h = 1 ; while ( h > 0 ) { h = read ( x [ 0 ] , y + 2 ) ; put ( y [ 2 ] ) ; if ( y [ 2 ] == 19 ) break ; } exit ( h + # ) ; } }",
      "F ( ) { pipe ( x ) ; fork ( ) ; fork ( ) ; a = pid ( ) ; while ( b < # ) { c = write ( x [ 1 ] , a * 19 + b ) ; if ( b % 3 ) c = read ( x [ 0 ] , & d ) ; put ( d ) ; b = b + 1 ; } close ( x [ 1 ] ) ; while ( c > 0 ) { c = read ( x [ 0 ] , & d ) ; put ( d ) ; } while ( c > - 1 ) c = wait ( y ) ; }",
      // signals from one to the other
      "H ( a ) { put ( a + 10 ) ; c = c + 1 ; if ( c > # ) exit ( c ) ; } G ( d ) { put ( d ) ; pause ( ) ; e = e + # ; } F ( ) { int b ; on ( 1 , 2 ) ; on ( 2 , 1 ) ; b = fork ( ) ; while ( f < # ) { f = f + 1 ; if ( b ) kill ( b , 1 + f % 2 ) ; else { g = get ( & h ) ; put ( g ) ; } } if ( b ) { kill ( b , # % 4 ) ; a = wait ( & d ) ; put ( d ) ; } }",
      "I ( g ) { g = get ( y + # ) ; put ( g ) ; kill ( 1 , 2 ) ; } H ( g ) { pause ( ) ; } F ( ) { on ( 1 , 3 ) ; on ( 2 , 2 ) ; fork ( ) ; kill ( 2 , 1 ) ; a = wait ( & b ) ; put ( a ) ; put ( b ) ; a = get ( & c ) ; put ( a ) ; kill ( 1 , 1 ) ; a = wait ( 0 ) ; put ( a ) ; F ( ) ; }",
      // many pages, shared and not
      "F ( ) { int a ; int b ; grow ( 5 * # ) ; while ( a < 5 * 10 ) { * ( a + 8 ) = a * # ; a = a + 1 ; } b = fork ( ) ; c = fork ( ) ; b = b + c ; a = 0 ; while ( a < 6 * 10 ) { * ( a + 9 ) = * ( a + 8 ) + b ; a = a + # ; } put ( * ( 4 * 10 ) ) ; a = 1 ; while ( a > 0 ) a = wait ( 0 ) ; }",
      "F ( ) { int a ; int b ; grow ( 8 * 8 ) ; while ( a < 8 * 11 ) { * ( 5 * 19 - a ) = a * 3 ; a = a + # ; } b = fork ( ) ; c = fork ( ) ; b = b + c ; a = 0 ; while ( a < 5 * 17 ) { * ( a + 10 ) = * ( a + 8 ) + b ; a = a + # ; } put ( * ( 7 * 10 ) ) ; grow ( - # ) ; grow ( - 2 * # ) ; grow ( # ) ; put ( * ( 9 * 10 ) ) ; b = 1 ; while ( b > 0 ) b = wait ( y ) ; }",
      "G ( a ) { int b ; grow ( 1 + # ) ; b = 2 * 15 + 1 ; while ( b < 9 * 10 ) { b = b + 3 ; * b = * ( b - # ) + a ; } } F ( ) { b = fork ( ) ; fork ( ) ; fork ( ) ; G ( b ) ; }",
      // FRAMES
      "G ( a ) { b = b + 1 ; if ( b < # ) G ( a + 1 ) ; put ( a ) ; return b ; } F ( ) { int c ; c = G ( # ) ; put ( c ) ; on ( 1 , 1 ) ; F ( ) ; }",
      "H ( c ) { } G ( a ) { b = b + 1 ; if ( b < 9 + # ) { c = G ( a * 2 ) ; return c + a ; } e = pid ( ) ; kill ( e , 1 ) ; } F ( ) { on ( 1 , 2 ) ; G ( 1 ) ; }",
      "H ( c ) { d = d + c ; } G ( a ) { b = b + 1 ; if ( b < 9 + # % 4 ) { c = G ( a * 2 ) ; return c + a ; } e = pid ( ) ; kill ( e , 1 + # % 2 ) ; ; return # ; } F ( ) { on ( 1 , 2 ) ; on ( 2 , # % 4 ) ; a = G ( 1 ) ; put ( a ) ; put ( d ) ; }",
      // FILES
      "F ( ) { int b ; b = open ( # % 8 , # % 4 ) ; a = fork ( ) ; while ( c < # ) { d = write ( b , c + 19 * a ) ; put ( d ) ; c = c + 1 ; } close ( b ) ; b = open ( # % 8 , 0 ) ; c = 1 ; while ( c > 0 ) { c = read ( b , & d ) ; put ( d ) ; } unlink ( # ) ; sync ( ) ; exec ( # % 4 ) ; }",
      "F ( ) { int b ; while ( a < 8 ) { b = open ( a , 1 + # % 3 ) ; write ( b , a ) ; if ( a % 3 == # % 3 ) { unlink ( a ) ; d = fork ( ) ; if ( d == 0 ) { get ( y ) ; write ( b , # ) ; exit ( 0 ) ; } } close ( b ) ; a = a + 1 ; } a = 0 ; while ( a < 7 ) { open ( a , 1 ) ; a = a + 1 ; } get ( y ) ; open ( # , 2 ) ; }",
      "F ( ) { a = open ( 1 , 3 ) ; b = open ( 1 , 2 ) ; c = open ( 1 , 1 ) ; d = open ( 1 , 0 ) ; unlink ( # % 3 ) ; while ( e < # ) { write ( # % 3 , e ) ; write ( a , # ) ; f = read ( d , x + e % 8 ) ; e = e + 1 ; } while ( e < 9 ) { e = e + 1 ; write ( # % 3 , e ) ; open ( 1 , # % 4 ) ; close ( # % 4 ) ; } sync ( ) ; }",
      // PROCESSES
      "F ( ) { while ( a < # ) { b = fork ( ) ; if ( b == 0 ) exit ( a ) ; a = a + 1 ; if ( a % 2 == # % 2 ) b = wait ( & c ) ; } d = wait ( x ) ; put ( d ) ; put ( x [ 0 ] ) ; exec ( # % 5 ) ; }",
      "F ( ) { while ( 1 ) { b = fork ( ) ; if ( b == 0 ) return # ; if ( b < 0 ) break ; wait ( & c ) ; put ( c ) ; } exec ( # % 4 ) ; }",
      "F ( ) { int a ; a = fork ( ) ; a = fork ( ) ; }",
      "F ( ) { fork ( ) ; fork ( ) ; fork ( ) ; while ( a > - 1 ) { a = wait ( & b ) ; put ( a ) ; if ( b == 5 * 7 * 3 ) exit ( 7 ) ; } return 8 * 13 + # % 3 ; }",
      // ERRORS
      "F ( ) { G ( ) ; } G ( a ) { int b ; b = & c ; }", "F ( a ) { return a ; }", "G ( ) { }", "F ( ) { } G ( ) { } F ( ) { }", "G ( a , b , a ) { int b ; int c ; int c ; } F ( ) { break ; while ( 1 ) { if ( 1 ) break ; } break ; }",
      "F ( ) { a = & b ; while ( 0 ) int b ; }", "F ( ) { H ( 1 ) ; I ( & a ) ; int a ; } I ( a , b ) { }", "F ( ) { if ( 1 ) if ( 2 ) ; else ; else ; else ; }", "F ( ) { put ( ) ; fork ( 1 ) ; kill ( 2 ) ; write ( 1 , 2 , 3 ) ; }",
      "G ( a , b , c , d , e , f , g , h ) { put ( h ) ; return a * b + c - d ; } F ( ) { a = G ( 1 , 2 , 3 , 4 , 5 , 6 , 7 , 8 ) ; put ( a ) ; }"
    };

    String meeting() {
      String text = dice.pick(MEETINGS);
      while (text.contains("#")) {
        text = text.replaceFirst("#", "" + (1 + dice.below(dice.isOne(4) ? 19 : 7)));
      }
      if (!dice.isOne(3)) {
        return text;
      }
      List<String> all = new ArrayList<>(Arrays.asList(text.split(" ")));
      int place = dice.below(all.size());
      switch (dice.below(3)) {
        case 0: all.set(place, SIGNS[dice.below(SIGNS.length)]); break;
        case 1: all.add(place, SIGNS[dice.below(SIGNS.length)]); break;
        default: all.remove(place); break;
      }
      return String.join(" ", all.subList(0, Math.min(160, all.size())));
    }

    /** What nests as deep as a TEXT can. */
    String nested() {
      String[] parts = dice.pick("( |1 )| ) ", "- |a| ", "! |x [ 0 ]| ", "x [ |1| ] ", "1 + ( |2| ) ", "a || ( b && ( c == ( |1| ) ) ) ", "1 * ( - |1| ) ", "* |y| ").split("\\|");
      if (dice.isOne(4)) {
        parts = dice.pick("{ |;| } ", "if ( 1 ) |;| ", "while ( 1 ) |break ;| ", "if ( 0 ) ; else |;| ", "while ( 0 ) { |;| } ").split("\\|");
        words.append("F ( ) { ");
      } else {
        words.append("F ( ) { a = ");
      }
      int each = (parts[0] + parts[2]).trim().split(" +").length;
      int many = dice.isOne(2) ? 150 / each : dice.below(150 / each + 1);
      for (int i = 0; i < many; i++) {
        words.append(parts[0]);
      }
      words.append(parts[1]).append(' ');
      for (int i = 0; i < many; i++) {
        words.append(parts[2]);
      }
      String text = words.toString().contains("a = ") ? words + "; }" : words + "}";
      String[] all = text.trim().split(" +");
      return String.join(" ", Arrays.asList(all).subList(0, Math.min(160 - dice.below(2), all.length)));
    }

    String any() {
      int way = dice.below(16);
      return way < 7 ? whole() : way < 15 ? meeting() : nested();
    }

    String whole() {
      isPlain = dice.isOne(3);
      defined = dice.pick("", "G", "GH", "GHI", "H", "GI");
      StringBuilder head = new StringBuilder();
      for (int i = 0; i < defined.length(); i++) {
        takes["FGHI".indexOf(defined.charAt(i))] = dice.below(3) == 0 ? dice.below(3) : 1;
      }
      boolean isFirst = dice.isOne(2);
      if (isFirst) {
        define('F', 0, defined.isEmpty() ? 60 : 90);
      }
      for (int i = 0; i < defined.length(); i++) {
        define(defined.charAt(i), takes["FGHI".indexOf(defined.charAt(i))], 22);
      }
      if (!isFirst) {
        define('F', 0, defined.isEmpty() ? 60 : 90);
      }
      return head.append(words).toString().trim();
    }

    void define(char f, int parameters, int size) {
      put(f + " (");
      String names = "abcdefgh";
      int from = dice.below(4);
      for (int i = 0; i < parameters; i++) {
        put((i > 0 ? ", " : "") + names.charAt(from + i));
      }
      put(") {");
      int told = dice.below(2);
      for (int i = 0; i < told; i++) {
        put("int " + names.charAt(from + parameters + i) + " ;");
      }
      int end = left - size;
      while (left > end && left > 12 && !dice.isOne(12)) {
        statement(0);
      }
      put("}");
    }

    void statement(int depth) {
      int kind = dice.below(depth > 2 || left < 30 ? 14 : 22);
      if (kind < 2) {
        put(name() + " =");
        expression(0);
        put(";");
      } else if (kind < 4) {
        put(dice.pick("x", "y") + " [");
        expression(1);
        put("] =");
        expression(1);
        put(";");
      } else if (kind == 4) {
        put("* " + dice.pick("& a", "( y + 9 )", "x", "a", "( 2 * 19 )") + " =");
        expression(1);
        put(";");
      } else if (kind < 13) {
        if (dice.isOne(2)) {
          put(name() + " =");
        }
        call();
        put(";");
      } else if (kind == 13) {
        put(dice.isOne(3) ? "return " + dice.below(9) + " ;" : loops > 0 && dice.isOne(2) ? "break ;" : ";");
      } else if (kind < 17) {
        put("if (");
        expression(0);
        put(")");
        inner(depth);
        if (dice.isOne(3)) {
          put("else");
          inner(depth);
        }
      } else if (kind < 20) {
        put("while (");
        if (dice.isOne(2)) {
          put("1");
        } else {
          expression(0);
        }
        put(")");
        loops++;
        inner(depth);
        loops--;
      } else {
        inner(depth);
      }
    }

    void inner(int depth) {
      if (dice.isOne(3)) {
        statement(depth + 1);
        return;
      }
      put("{");
      int many = dice.below(4);
      for (int i = 0; i < many && left > 25; i++) {
        statement(depth + 1);
      }
      put("}");
    }

    String name() {
      return dice.pick("a", "b", "c", "d", "a", "b", "e", "h");
    }

    void call() {
      if (!defined.isEmpty() && dice.isOne(4)) {
        char f = dice.isOne(6) ? 'F' : defined.charAt(dice.below(defined.length()));
        int many = f == 'F' ? 0 : takes["FGHI".indexOf(f)];
        put(f + " (");
        for (int i = 0; i < many; i++) {
          put(i > 0 ? "," : "");
          expression(1);
        }
        put(")");
        return;
      }
      String plain = dice.pick("put ( a )", "put ( b + 1 )", "put ( x [ 1 ] )", "grow ( 8 )", "grow ( 3 )", "grow ( - 5 )", "grow ( 19 )", "pause ( )", "pid ( )",
          "get ( & a )", "get ( x + 2 )", "exit ( b )", "put ( * y )");
      String rich = dice.pick("fork ( )", "fork ( )", "fork ( )", "wait ( 0 )", "wait ( & a )", "wait ( x )", "exec ( 1 )", "exec ( a )", "pipe ( x )", "pipe ( x )", "pipe ( y )",
          "pipe ( & c )", "read ( x [ 0 ] , & a )", "read ( x [ 0 ] , y )", "read ( b , & c )", "read ( 0 , x + 3 )", "write ( x [ 1 ] , 7 )", "write ( x [ 1 ] , b )", "write ( b , 9 )",
          "write ( 0 , a )", "write ( 1 , 3 )", "open ( 1 , 1 )", "open ( 1 , 2 )", "open ( 1 , 3 )", "open ( 1 , 0 )", "open ( b , 3 )", "open ( a , 1 )", "open ( 2 , 2 )",
          "close ( x [ 0 ] )", "close ( x [ 1 ] )", "close ( b )", "close ( 0 )", "close ( 1 )", "unlink ( 1 )", "unlink ( b )", "kill ( 1 , 1 )", "kill ( b , 2 )", "kill ( a , 3 )",
          "kill ( 2 , 2 )", "on ( 1 , 1 )", "on ( 2 , 2 )", "on ( 1 , 3 )", "on ( 2 , 1 )", "on ( 1 , 0 )", "sync ( )");
      put(isPlain || dice.isOne(3) ? plain : rich);
    }

    void expression(int depth) {
      int kind = dice.below(depth > 2 || left < 40 ? 6 : 13);
      switch (kind) {
        case 0:
        case 1:
          put("" + dice.below(dice.isOne(3) ? 20 : 4));
          break;
        case 2:
        case 3:
          put(name());
          break;
        case 4:
          put(dice.pick("x", "y", "& g", "x [ 1 ]", "x [ a ]", "y [ 2 ]", "y [ 9 ]", "* 8", "* x", "- 1", "! a"));
          break;
        case 5:
          put(dice.pick("a < 3", "b > 0", "a == 0", "! b", "- a", "1 && 2", "0 || 0", "3 * 4", "1 - 2", "7 % 3", "- ! 0", "0 && 1 / 0", "1 || 1 % 0"));
          break;
        case 6:
          put("(");
          expression(depth + 1);
          put(")");
          break;
        case 7:
          put(dice.pick("-", "!", "!", "*"));
          expression(depth + 2);
          break;
        default:
          expression(depth + 1);
          put(dice.pick("+", "-", "*", "/", "%", "<", ">", "==", "!=", "&&", "||", "+", "<"));
          expression(depth + 1);
          break;
      }
    }
  }

  // ---- runs

  private final Dice dice;
  private boolean isCalm;
  private final Model model = new Model();
  private final Pagekernel kernel = new Pagekernel();
  private final List<String> calls = new ArrayList<>();
  private static final Map<String, Method[]> METHODS = new HashMap<>();
  private static final List<String> NAMES = new ArrayList<>();

  static {
    for (Method m : Model.class.getDeclaredMethods()) {
      if (java.lang.reflect.Modifier.isPublic(m.getModifiers())) {
        try {
          METHODS.put(m.getName(), new Method[] {m, Pagekernel.class.getMethod(m.getName(), m.getParameterTypes())});
        } catch (NoSuchMethodException e) {
          throw new IllegalStateException(e);
        }
        NAMES.add(m.getName());
      }
    }
    java.util.Collections.sort(NAMES);
  }

  private AgainstModel(long seed) {
    dice = new Dice(seed);
  }

  private static Object ask(Method m, Object object, Object[] arguments) {
    try {
      return m.invoke(object, arguments);
    } catch (InvocationTargetException e) {
      Throwable t = e.getCause();
      if (t instanceof IllegalArgumentException || t instanceof IllegalStateException || t.getClass() == IndexOutOfBoundsException.class) {
        return "throws." + t.getClass().getSimpleName();
      }
      t.printStackTrace(System.out);
      return "fell: " + t;
    } catch (IllegalAccessException e) {
      throw new IllegalStateException(e);
    }
  }

  private boolean call(String name, Object... arguments) {
    Method[] both = METHODS.get(name);
    calls.add(name + Arrays.toString(arguments));
    Object due = ask(both[0], model, arguments);
    Object got = ask(both[1], kernel, arguments);
    if (due.equals(got)) {
      return true;
    }
    System.out.println(calls.get(calls.size() - 1) + " answered " + got + ", due is " + due);
    return false;
  }

  private boolean typeWhole(int program, String text) {
    int[] t = tokens(text);
    if (!call("drop", program, model.length(program))) {
      return false;
    }
    for (int i = 0; i < t.length; i += 5) {
      Object[] arguments = {program, -1, -1, -1, -1, -1};
      for (int k = 0; k < 5 && i + k < t.length; k++) {
        arguments[1 + k] = t[i + k];
      }
      if (!call("type", arguments)) {
        return false;
      }
    }
    return call("error", program) && call("kind", program);
  }

  private int some(int low, int high) {
    if (dice.isOne(25)) {
      return dice.isOne(2) ? low - 1 - dice.below(2) : high + 1 + dice.below(2);
    }
    return dice.isOne(200) ? Integer.MIN_VALUE + dice.below(2) - 1 : low + dice.below(high - low + 1);
  }

  private int somePid() {
    int given = model.house(8);
    return dice.isOne(3) || given < 7 ? some(1, Math.max(1, given)) : some(given - 6, given);
  }

  private boolean typeSome() {
    int program = dice.below(4);
    int way = dice.below(10);
    if (way < 6) {
      return typeWhole(program, new Writer(dice).any());
    }
    if (way < 7) {
      return call("sample", some(0, 3), some(0, 7));
    }
    if (way < 8 && model.length(program) > 0) {
      return call("change", some(0, 3), some(0, model.length(program) - 1), some(0, 79));
    }
    if (way < 9) {
      return call("drop", some(0, 3), some(0, Math.min(4, model.length(program))));
    }
    return call("type", some(0, 3), some(0, 79), some(-1, 79), some(-1, 79), some(-1, 79), some(-1, 79));
  }

  private boolean askSome() {
    String name = NAMES.get(dice.below(NAMES.size()));
    switch (name) {
      case "length": case "text": case "error": case "kind":
        return call(name, some(0, 3));
      case "token":
        return call(name, some(0, 3), some(0, 100));
      case "isLocal":
        return call(name, some(0, 3), some(0, 3), some(0, 7));
      case "state": case "can": case "where": case "children": case "waitsIn": case "press":
        return call(name, somePid());
      case "ofProcess":
        return call(name, somePid(), some(0, 11));
      case "cell":
        return call(name, somePid(), some(8, 60));
      case "local":
        return call(name, somePid(), some(0, 3), some(0, 7));
      case "function":
        return call(name, somePid(), some(0, 3));
      case "descriptor":
        return call(name, somePid(), some(0, 5));
      case "handler":
        return call(name, somePid(), some(1, 2));
      case "turn":
        return call(name, some(0, 2));
      case "inputs": case "isSound": case "digest": case "knock":
        return call(name);
      case "out":
        return call(name, some(0, Math.max(1, model.house(10))));
      case "ofPipe":
        return call(name, some(0, 3), some(0, 2));
      case "inPipe":
        return call(name, some(0, 3));
      case "size": case "inFile":
        return call(name, some(0, 7));
      case "would":
        return call(name, some(0, model.house(5)));
      case "house":
        return call(name, some(0, 13));
      default:
        return true;
    }
  }

  private boolean doSome() {
    if (isCalm && dice.isOne(2)) {
      return call("run", some(1, 20));
    }
    switch (dice.below(24)) {
      case 0: case 1: case 2: case 3:
        return call("start", some(0, 3));
      case 4: case 5: case 6:
        return call("run", dice.isOne(10) ? 200 : some(1, 30));
      case 7: case 8: case 9:
        return call("step");
      case 10:
        return call("quantum", some(1, 10));
      case 11: case 12: case 13:
        return call("send", somePid(), isCalm ? some(1, 2) : some(1, 3));
      case 14: case 15:
        return call("give", dice.below(50) - 9);
      case 16: case 17:
        return call("store", some(0, 7), dice.below(99));
      case 18:
        return call("remove", some(0, 7));
      case 19:
        return dice.isOne(2) ? call("sync") : true;
      case 20:
        return isCalm ? true : dice.isOne(3) ? call("crash", some(0, model.house(5)), dice.isOne(2)) : dice.isOne(3) ? call("halted", some(0, 99)) : true;
      case 21:
        return call("frames", some(8, dice.isOne(2) ? 9 : 40));
      case 22:
        return call("level", some(0, 2));
      default:
        return call("press", somePid());
    }
  }

  private boolean go() {
    int many = dice.isOne(3) ? 440 : 60 + dice.below(200);
    for (int i = 0; i < 2; i++) {
      if (!typeWhole(i, new Writer(dice).any())) {
        return false;
      }
    }
    call("frames", 8 + dice.below(4));
    boolean isCareful = dice.isOne(4);
    isCalm = dice.isOne(2);
    while (calls.size() < many) {
      int way = dice.below(20);
      if (way == 0 && dice.isOne(3) && !typeSome() || way < 12 && !doSome() || way >= 12 && !askSome()) {
        return false;
      }
      if (isCareful && !call("digest")) {
        return false;
      }
    }
    return call("digest") && call("isSound");
  }

  public static void main(String[] arguments) {
    long first = arguments.length > 0 ? Long.parseLong(arguments[0]) : 1;
    long many = arguments.length > 1 ? Long.parseLong(arguments[1]) : 10000;
    int wrong = 0;
    long total = 0;
    Map<String, Integer> counted = new TreeMap<>();
    for (long run = first; run < first + many && wrong < 3; run++) {
      AgainstModel one = new AgainstModel(run);
      if (!one.go()) {
        wrong++;
        System.out.println("run " + run + ", behind " + one.calls.size() + " calls");
        if (arguments.length > 2) {
          one.calls.forEach(System.out::println);
          for (int i = 0; i < 4; i++) {
            System.out.println(one.model.text(i));
          }
        }
      }
      total += one.calls.size();
      one.count(counted);
    }
    System.out.println(total + " calls; " + counted);
    System.out.println(wrong == 0 ? "all answers are those of the model" : wrong + " runs are wrong");
    if (wrong != 0) {
      System.exit(1);
    }
  }

  /** What the runs have met: they are worth little if they meet little. */
  private void count(Map<String, Integer> counted) {
    for (int i = 0; i < 4; i++) {
      counted.merge("kind " + model.kind(i), 1, Integer::sum);
    }
    for (int pid = 1; pid <= model.house(8); pid++) {
      counted.merge("why " + model.ofProcess(pid, 8), 1, Integer::sum);
      counted.merge("state " + model.state(pid), 1, Integer::sum);
      if (model.state(pid) == 2) {
        counted.merge("waits in " + SIGNS[model.waitsIn(pid)], 1, Integer::sum);
      }
    }
    counted.merge("ticks", model.house(6), Integer::sum);
    counted.merge("crashes", model.house(11), Integer::sum);
    counted.merge("outs", model.house(10), Integer::sum);
    counted.merge("pids 60", model.house(8) == 60 ? 1 : 0, Integer::sum);
  }
}
