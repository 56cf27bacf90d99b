import java.io.IOException;
import java.nio.file.Files;
import java.nio.file.Path;
import java.util.ArrayList;
import java.util.Arrays;
import java.util.List;
import java.util.Objects;

/** What the tests of the project share: it counts what is wrong and types texts that are written with their signs. */
final class Checks {
  private static final List<String> SIGNS = signs();
  private static int wrong;
  private static int asked;
  /** The sentence of the document by which the next answers are due. */
  private static String about = "";
  private static String document;

  private Checks() {
  }

  private static String plain(String words) {
    return words.replaceAll("\\s+", " ").trim();
  }

  /** What follows is due by this sentence: it stands in the document word for word. */
  static void sentence(String words) {
    about = words;
    if (document == null) {
      try {
        document = plain(Files.readString(Path.of("../shared/DOC.md")));
      } catch (IOException e) {
        document = "";
      }
    }
    asked++;
    if (!document.contains(plain(words))) {
      wrong++;
      System.out.println("the document does not say: " + words);
    }
  }

  private static List<String> signs() {
    List<String> all = new ArrayList<>();
    for (int i = 0; i < 20; i++) {
      all.add(String.valueOf(i));
    }
    all.addAll(Arrays.asList(("a b c d e f g h x y F G H I int if else while break return { } ( ) [ ] , ; = || && == != < > + - * / % ! & "
        + "fork exec wait exit pipe read write open close unlink kill on put get grow pid pause sync").split(" ")));
    return all;
  }

  static int token(String sign) {
    return SIGNS.indexOf(sign);
  }

  static String sign(int token) {
    return SIGNS.get(token);
  }

  static void due(String what, Object got, Object want) {
    asked++;
    if (!Objects.equals(got, want)) {
      wrong++;
      System.out.println((about.isEmpty() ? "" : "[" + about + "] ") + what + " answered " + got + ", due is " + want);
    }
  }

  /** Makes an object that is always the same one. */
  interface Maker {
    Pagekernel make();
  }

  /** A call and its answer. */
  interface Call {
    Object of(Pagekernel x);
  }

  /** What the call answers, or the class of what it throws. */
  static Object answer(Pagekernel x, Call call) {
    try {
      return call.of(x);
    } catch (RuntimeException e) {
      return e.getClass();
    }
  }

  /** All that an object tells, as far as asking does not change it. */
  private static String all(Pagekernel x) {
    StringBuilder all = new StringBuilder();
    all.append(x.digest()).append(" inputs ").append(x.inputs());
    for (int program = 0; program < 4; program++) {
      all.append(" text ").append(x.text(program));
    }
    for (int n = 0; n <= x.house(5); n++) {
      all.append(" would ").append(x.would(n));
    }
    for (int pid = 1; pid <= x.house(8); pid++) {
      if (x.state(pid) < 3) {
        all.append(' ').append(x.handler(pid, 1)).append(x.handler(pid, 2)).append(x.waitsIn(pid)).append(x.can(pid)).append(x.children(pid));
      }
    }
    return all.toString();
  }

  /** The call answers so (or throws it), and changes nothing: a twin without that call tells and does the same. */
  static void unchanged(String what, Maker maker, Call call, Object want) {
    Pagekernel x = maker.make();
    Pagekernel twin = maker.make();
    due(what, answer(x, call), want);
    due("all behind " + what, all(x), all(twin));
    due("FRAMES behind " + what, x.frames(12), twin.frames(12));
    due("LEVEL behind " + what, x.level(0), twin.level(0));
    due("TICKS behind " + what, x.run(60), twin.run(60));
    due("digest() behind " + what + " and TICKS", x.digest(), twin.digest());
  }

  /** What lies just beyond a least and a most, and as far beyond as 32 bits go. */
  static int[] beyond(int least, int most) {
    return new int[] {least - 1, most + 1, Integer.MIN_VALUE, Integer.MAX_VALUE};
  }

  /** Each of these throws just this, and changes nothing. */
  static void allRefused(String what, Maker maker, int[] wrong, CallOf call, Class<? extends RuntimeException> want) {
    for (int value : wrong) {
      unchanged(what + " with " + value, maker, x -> call.of(x, value), want);
    }
  }

  /** A call with one argument that changes from one to the next. */
  interface CallOf {
    Object of(Pagekernel x, int value);
  }

  /** The call throws just this exception, and nothing has changed behind it. */
  static void refused(Pagekernel x, String what, Class<? extends RuntimeException> want, Runnable call) {
    long before = x.digest();
    Object got = "nothing";
    try {
      call.run();
    } catch (RuntimeException e) {
      got = e.getClass();
    }
    due(what, got, want);
    due("digest() behind " + what, x.digest(), before);
  }

  static final Class<IndexOutOfBoundsException> INDEX = IndexOutOfBoundsException.class;
  static final Class<IllegalArgumentException> ARGUMENT = IllegalArgumentException.class;
  static final Class<IllegalStateException> STATE = IllegalStateException.class;

  /** A part of a text so many times. */
  static String times(String part, int many) {
    StringBuilder all = new StringBuilder();
    for (int i = 0; i < many; i++) {
      all.append(part).append(' ');
    }
    return all.toString();
  }

  /** How many TOKENS a text has. */
  static int many(String text) {
    return text.trim().isEmpty() ? 0 : text.trim().split(" +").length;
  }

  /** STATE of each PROCESS, by PIDS. */
  static String states(Pagekernel x) {
    StringBuilder all = new StringBuilder();
    for (int pid = 1; pid <= x.house(8); pid++) {
      all.append(x.state(pid));
    }
    return all.toString();
  }

  /** Types a text anew, one TOKEN a call where it must be, five otherwise. */
  static void write(Pagekernel x, int program, String text) {
    x.drop(program, x.length(program));
    String[] words = text.isEmpty() ? new String[0] : text.trim().split(" +");
    for (int i = 0; i < words.length; i += 5) {
      int[] t = {-1, -1, -1, -1, -1};
      for (int k = 0; k < 5 && i + k < words.length; k++) {
        t[k] = token(words[i + k]);
        if (t[k] < 0) {
          throw new IllegalStateException("no sign: " + words[i + k]);
        }
      }
      x.type(program, t[0], t[1], t[2], t[3], t[4]);
    }
  }

  static Pagekernel with(String text) {
    Pagekernel x = new Pagekernel();
    write(x, 0, text);
    return x;
  }

  /** A new object whose PROGRAM 0 is a text, with one PROCESS of it that has had so many TICKS. */
  static Pagekernel begun(String text, int ticks) {
    Pagekernel x = with(text);
    due("kind of " + text, x.kind(0), 0);
    x.start(0);
    ticks(x, ticks);
    return x;
  }

  static void ticks(Pagekernel x, int many) {
    for (int i = 0; i < many; i++) {
      if (x.step() == -1) {
        due("TICK " + i + " of " + many, "none", "one");
        return;
      }
    }
  }

  /** What all PROCESSES of a text put, the text run as PROGRAM 0 till nothing goes on. */
  static String outs(String text) {
    Pagekernel x = begun(text, 0);
    x.run(200);
    due("isSound() behind " + text, x.isSound(), true);
    return x.out(0);
  }

  private static long mix(long d, Object v) {
    if (v instanceof String) {
      long mixed = d;
      for (char sign : ((String) v).toCharArray()) {
        mixed = mixed * 31 + sign;
      }
      return mixed;
    }
    return d * 31 + (Integer) v;
  }

  /** By the other calls, with an object for each PROCESS: no object has more than 512 calls. */
  static long digestOf(Maker maker) {
    Pagekernel x = maker.make();
    long d = 7605;
    for (int what = 0; what <= 13; what++) {
      d = mix(d, x.house(what));
    }
    for (int what = 0; what <= 2; what++) {
      d = mix(d, x.turn(what));
    }
    for (int program = 0; program < 4; program++) {
      d = mix(mix(d, x.error(program)), x.kind(program));
    }
    for (int pid = 1; pid <= x.house(8); pid++) {
      d = mixProcess(d, maker.make(), pid);
    }
    for (int pipe = 0; pipe < 4; pipe++) {
      d = mix(d, x.inPipe(pipe));
    }
    d = mix(mix(d, x.would(0)), x.would(x.house(5)));
    d = mix(d, x.out(Math.max(0, x.house(10) - 20)));
    return mix(d, x.isSound() ? 1 : 0);
  }

  private static long mixProcess(long before, Pagekernel x, int pid) {
    long d = mix(before, x.state(pid));
    for (int what = 0; what <= 11; what++) {
      d = mix(d, x.ofProcess(pid, what));
    }
    d = mix(d, x.where(pid));
    if (x.state(pid) == 1 || x.state(pid) == 2) {
      for (int address = 8; address <= 95; address++) {
        d = mix(d, x.cell(pid, address));
      }
      for (int frame = 0; frame < x.ofProcess(pid, 1); frame++) {
        d = mix(d, x.function(pid, frame));
        for (int name = 0; name < 8; name++) {
          d = mix(d, x.local(pid, frame, name));
        }
      }
      for (int descriptor = 0; descriptor < 6; descriptor++) {
        d = mix(d, x.descriptor(pid, descriptor));
      }
    }
    return d;
  }

  static void end() {
    System.out.println(asked + " answers, " + wrong + " wrong");
    if (wrong != 0) {
      System.exit(1);
    }
  }
}
