import java.util.Arrays;
import java.util.List;
import java.util.ArrayList;
import java.util.Objects;

/** What the tests of the project share: it counts what is wrong and types texts that are written with their signs. */
final class Checks {
  private static final List<String> SIGNS = signs();
  private static int wrong;
  private static int asked;

  private Checks() {
  }

  private static List<String> signs() {
    List<String> all = new ArrayList<>();
    for (int i = 0; i < 20; i++) {
      all.add(String.valueOf(i));
    }
    all.addAll(Arrays.asList(("a b c d e f g h x y F G H I int if else while break return { } ( ) [ ] , ; = || && == != < > + - * / % ! & "
        + "fork exec wait exit pipe read write open close unlink kill on put get grow pid pause sync").split(" ")));
    return all;
  }

  static int token(String sign) {
    return SIGNS.indexOf(sign);
  }

  static String sign(int token) {
    return SIGNS.get(token);
  }

  static void due(String what, Object got, Object want) {
    asked++;
    if (!Objects.equals(got, want)) {
      wrong++;
      System.out.println(what + " answered " + got + ", due is " + want);
    }
  }

  /** The call throws just this exception, and nothing has changed behind it. */
  static void refused(Pagekernel x, String what, Class<? extends RuntimeException> want, Runnable call) {
    long before = x.digest();
    Object got = "nothing";
    try {
      call.run();
    } catch (RuntimeException e) {
      got = e.getClass();
    }
    due(what, got, want);
    due("digest() behind " + what, x.digest(), before);
  }

  static final Class<IndexOutOfBoundsException> INDEX = IndexOutOfBoundsException.class;
  static final Class<IllegalArgumentException> ARGUMENT = IllegalArgumentException.class;
  static final Class<IllegalStateException> STATE = IllegalStateException.class;

  /** Types a text anew, one TOKEN a call where it must be, five otherwise. */
  static void write(Pagekernel x, int program, String text) {
    x.drop(program, x.length(program));
    String[] words = text.isEmpty() ? new String[0] : text.trim().split(" +");
    for (int i = 0; i < words.length; i += 5) {
      int[] t = {-1, -1, -1, -1, -1};
      for (int k = 0; k < 5 && i + k < words.length; k++) {
        t[k] = token(words[i + k]);
        if (t[k] < 0) {
          throw new IllegalStateException("no sign: " + words[i + k]);
        }
      }
      x.type(program, t[0], t[1], t[2], t[3], t[4]);
    }
  }

  static Pagekernel with(String text) {
    Pagekernel x = new Pagekernel();
    write(x, 0, text);
    return x;
  }

  /** A new object whose PROGRAM 0 is a text, with one PROCESS of it that has had so many TICKS. */
  static Pagekernel begun(String text, int ticks) {
    Pagekernel x = with(text);
    due("kind of " + text, x.kind(0), 0);
    x.start(0);
    ticks(x, ticks);
    return x;
  }

  static void ticks(Pagekernel x, int many) {
    for (int i = 0; i < many; i++) {
      if (x.step() == -1) {
        due("TICK " + i + " of " + many, "none", "one");
        return;
      }
    }
  }

  /** What all PROCESSES of a text put, the text run as PROGRAM 0 till nothing goes on. */
  static String outs(String text) {
    Pagekernel x = begun(text, 0);
    x.run(200);
    due("isSound() behind " + text, x.isSound(), true);
    return x.out(0);
  }

  static void end() {
    System.out.println(asked + " answers, " + wrong + " wrong");
    if (wrong != 0) {
      System.exit(1);
    }
  }
}
