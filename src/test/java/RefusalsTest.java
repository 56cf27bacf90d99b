/**
 * Each call that is refused: what it throws or answers for arguments just beyond what its promise allows and as far beyond
 * as 32 bits go, which exception goes first, and that nothing has changed behind it. A twin of the object, without the
 * call, is asked the same.
 */
public final class RefusalsTest {
  private static final int ENDED = 2;
  private static final int GONE = 4;
  private static final int[] NEVER_GIVEN = {0, -1, 5, 60, 61, Integer.MIN_VALUE, Integer.MAX_VALUE};

  /** PROCESSES that are WAITING (1), ENDED (2), READY (3) and GONE (4), a PIPE, FILES, PENDING ACTS, INPUTS and OUTS. */
  private static Pagekernel busy() {
    Pagekernel x = Checks.with("G ( a ) { get ( y ) ; } F ( ) { int b ; on ( 1 , 1 ) ; pipe ( x ) ; open ( 3 , 3 ) ; write ( 2 , 7 ) ; write ( 1 , 5 ) ; "
        + "b = fork ( ) ; if ( b == 0 ) exit ( 3 ) ; b = fork ( ) ; if ( b ) get ( y ) ; else while ( 1 ) put ( a ) ; }");
    Checks.write(x, 1, "F ( ) { break ; }");
    x.sample(2, 0);
    x.store(1, 4);
    x.sync();
    x.store(1, 5);
    x.start(0);
    x.run(30);
    x.start(2);
    x.run(30);
    x.send(1, 2);
    x.run(1);
    x.quantum(4);
    x.knock();
    return x;
  }

  private static Pagekernel fresh() {
    return new Pagekernel();
  }

  /** The call is refused so by an object that is new, and by one in which much goes on. */
  private static void refused(String what, Checks.Call call, Class<? extends RuntimeException> want) {
    Checks.unchanged(what + " of a new object", RefusalsTest::fresh, call, want);
    Checks.unchanged(what, RefusalsTest::busy, call, want);
  }

  private static void eachRefused(String what, int[] wrong, Checks.CallOf call, Class<? extends RuntimeException> want) {
    for (int value : wrong) {
      refused(what + " with " + value, x -> call.of(x, value), want);
    }
  }

  private static void theBusyOneIsBusy() {
    Pagekernel x = busy();
    Checks.due("STATES", "" + x.state(1) + x.state(2) + x.state(3) + x.state(4) + x.state(5), "23140");
    Checks.due("PIPES, FILES, ACTS", x.house(2) * 100 + x.house(3) * 10 + x.house(5), 123);
    Checks.due("OUTS", x.house(10) > 5, true);
    Checks.due("kinds", x.kind(0) * 1000 + x.kind(1) * 100 + x.kind(2) * 10 + x.kind(3), 501);
  }

  private static void programs() {
    int[] wrong = Checks.beyond(0, 3);
    Checks.sentence("Throws `IndexOutOfBoundsException` if there is no such PROGRAM");
    // with other arguments that are wrong too: it is named first
    eachRefused("type to a PROGRAM", wrong, (x, v) -> x.type(v, 80, -2, 0, 0, 0), Checks.INDEX);
    eachRefused("drop of a PROGRAM", wrong, (x, v) -> x.drop(v, -1), Checks.INDEX);
    eachRefused("sample to a PROGRAM", wrong, (x, v) -> x.sample(v, 8), Checks.INDEX);
    eachRefused("change of a PROGRAM", wrong, (x, v) -> x.change(v, 0, 80), Checks.INDEX);
    eachRefused("length of a PROGRAM", wrong, Pagekernel::length, Checks.INDEX);
    eachRefused("token of a PROGRAM", wrong, (x, v) -> x.token(v, 0), Checks.INDEX);
    eachRefused("text of a PROGRAM", wrong, Pagekernel::text, Checks.INDEX);
    eachRefused("error of a PROGRAM", wrong, Pagekernel::error, Checks.INDEX);
    eachRefused("kind of a PROGRAM", wrong, Pagekernel::kind, Checks.INDEX);
    eachRefused("isLocal of a PROGRAM", wrong, (x, v) -> x.isLocal(v, 0, 0), Checks.INDEX);
    eachRefused("start of a PROGRAM", wrong, Pagekernel::start, Checks.INDEX);
    for (int program : new int[] {0, 3}) {
      Checks.due("the least and the greatest PROGRAM", Checks.answer(fresh(), x -> x.type(program, 1, 2, -1, -1, -1)), 2);
      Checks.due("the least and the greatest PROGRAM", Checks.answer(fresh(), x -> x.sample(program, 0)), 27);
    }
  }

  private static void tokensTyped() {
    Checks.sentence("Throws `IllegalArgumentException` if one of all five is not NONE to 79");
    for (int place = 0; place < 5; place++) {
      int here = place;
      // behind a NONE too, where it would not be written
      for (int first : new int[] {-1, 5}) {
        eachRefused("type, argument " + place, Checks.beyond(-1, 79), (x, v) -> {
          int[] t = {first, 1, 2, 3, 4};
          t[here] = v;
          return x.type(3, t[0], t[1], t[2], t[3], t[4]);
        }, Checks.ARGUMENT);
      }
      Pagekernel y = fresh();
      int[] t = {-1, -1, -1, -1, -1};
      t[place] = 79;
      Checks.due("79 as argument " + place, y.type(1, t[0], t[1], t[2], t[3], t[4]), place == 0 ? 1 : 0);
      int[] u = {0, 0, 0, 0, 0};
      u[place] = -1;
      Checks.due("NONE as argument " + place, y.type(2, u[0], u[1], u[2], u[3], u[4]), place);
    }
  }

  private static Pagekernel typed(int many) {
    Pagekernel x = fresh();
    for (int i = 0; i < many; i++) {
      x.type(2, i % 80, -1, -1, -1, -1);
    }
    return x;
  }

  private static void fullTexts() {
    Checks.sentence("Throws `IllegalStateException` if there were more than 160 then");
    for (int there = 156; there <= 160; there++) {
      for (int many = 0; many <= 5; many++) {
        int[] t = {-1, -1, -1, -1, -1};
        for (int i = 0; i < many; i++) {
          t[i] = 40 + i;
        }
        int have = there;
        if (there + many > 160) {
          Checks.unchanged(many + " behind " + there, () -> typed(have), x -> x.type(2, t[0], t[1], t[2], t[3], t[4]), Checks.STATE);
        } else {
          Checks.due(many + " behind " + there, typed(there).type(2, t[0], t[1], t[2], t[3], t[4]), there + many);
        }
      }
    }
    Checks.unchanged("five behind 160, up to a NONE that is the first", () -> typed(160), x -> x.type(2, -1, 1, 1, 1, 1), 160);
    Checks.sentence("If several exceptions apply, the one that is named first is thrown.");
    Checks.unchanged("80 behind 160", () -> typed(160), x -> x.type(2, 1, 1, 1, 1, 80), Checks.ARGUMENT);
    Checks.unchanged("80 behind 160, a NONE ahead of it", () -> typed(160), x -> x.type(2, 1, -1, 80, 1, 1), Checks.ARGUMENT);
    Checks.unchanged("no PROGRAM", () -> typed(160), x -> x.type(4, 1, 1, 1, 1, 80), Checks.INDEX);
  }

  private static void texts() {
    Checks.sentence("Throws `IllegalArgumentException` if many is not 0 to how many there are");
    Checks.allRefused("drop of 9", () -> Checks.with("F ( ) { a = 1 ; }"), Checks.beyond(0, 9), (x, v) -> x.drop(0, v), Checks.ARGUMENT);
    Checks.allRefused("drop of none", RefusalsTest::fresh, Checks.beyond(0, 0), (x, v) -> x.drop(0, v), Checks.ARGUMENT);
    Checks.unchanged("drop 0", RefusalsTest::busy, x -> x.drop(2, 0), 27);
    Checks.due("drop all", busy().drop(2, 27), 0);
    Checks.due("drop all but one", busy().drop(2, 26), 1);
    Checks.due("drop 160", typed(160).drop(2, 160), 0);
    Checks.unchanged("drop 161", () -> typed(160), x -> x.drop(2, 161), Checks.ARGUMENT);

    Checks.sentence("Throws `IllegalArgumentException` if k is not 0 to 7");
    eachRefused("sample", Checks.beyond(0, 7), (x, v) -> x.sample(0, v), Checks.ARGUMENT);

    Checks.sentence("Throws `IndexOutOfBoundsException` if there is no such PROGRAM, or no such place in its TEXT");
    eachRefused("change", Checks.beyond(0, 26), (x, v) -> x.change(2, v, 80), Checks.INDEX);
    eachRefused("token", Checks.beyond(0, 26), (x, v) -> x.token(2, v), Checks.INDEX);
    refused("change in an empty TEXT", x -> x.change(3, 0, 1), Checks.INDEX);
    refused("token of an empty TEXT", x -> x.token(3, 0), Checks.INDEX);
    Checks.unchanged("place 160", () -> typed(160), x -> x.token(2, 160), Checks.INDEX);
    Checks.unchanged("place 160", () -> typed(160), x -> x.change(2, 160, 1), Checks.INDEX);
    Checks.due("place 159", typed(160).token(2, 159), 79);
    Checks.due("change of place 159", typed(160).change(2, 159, 0), 79);
    Checks.due("change of place 0", typed(160).change(2, 0, 79), 0);

    Checks.sentence("Throws `IllegalArgumentException` if token is not 0 to 79");
    for (int value : Checks.beyond(0, 79)) {
      Checks.unchanged("change to " + value, RefusalsTest::busy, x -> x.change(2, 0, value), Checks.ARGUMENT);
      Checks.unchanged("change to " + value, RefusalsTest::busy, x -> x.change(2, 26, value), Checks.ARGUMENT);
    }

    Checks.sentence("Throws `IndexOutOfBoundsException` if there is no such PROGRAM, FUNCTION or NAME");
    eachRefused("isLocal of a FUNCTION", Checks.beyond(0, 3), (x, v) -> x.isLocal(2, v, 0), Checks.INDEX);
    eachRefused("isLocal of a NAME", Checks.beyond(0, 7), (x, v) -> x.isLocal(2, 0, v), Checks.INDEX);
    Checks.unchanged("isLocal of I, h", RefusalsTest::busy, x -> x.isLocal(2, 3, 7), -1);
    Checks.unchanged("isLocal of F, h", RefusalsTest::busy, x -> x.isLocal(2, 0, 7), 0);
    Checks.unchanged("isLocal of F, a", RefusalsTest::busy, x -> x.isLocal(2, 0, 0), 1);
  }

  private static Pagekernel begun(int many, String text) {
    Pagekernel x = Checks.with(text);
    for (int i = 0; i < many; i++) {
      x.start(0);
    }
    return x;
  }

  private static void starts() {
    Checks.sentence("Throws `IllegalStateException` if there are 6 PROCESSES, or 60 PIDS were given");
    Checks.due("a sixth", begun(5, "F ( ) { ; }").start(0), 6);
    Checks.unchanged("a seventh", () -> begun(6, "F ( ) { ; }"), x -> x.start(0), Checks.STATE);
    Checks.due("a 60th", begun(59, "F ( ) { }").start(0), 60);
    Checks.unchanged("a 61st", () -> begun(60, "F ( ) { }"), x -> x.start(0), Checks.STATE);
    Checks.sentence("Exceptions go ahead of -9.");
    Checks.unchanged("a seventh with an ERROR", () -> begun(6, "F ( ) { ; }"), x -> x.start(1), Checks.STATE);
    Checks.unchanged("a 61st with an ERROR", () -> begun(60, "F ( ) { }"), x -> x.start(3), Checks.STATE);
    Checks.unchanged("a seventh of no PROGRAM", () -> begun(6, "F ( ) { ; }"), x -> x.start(4), Checks.INDEX);
    Checks.unchanged("a 61st of no PROGRAM", () -> begun(60, "F ( ) { }"), x -> x.start(-1), Checks.INDEX);
    Checks.sentence("-9 (REFUSED) is told by a call where it is LET, but cannot be done; nothing changes then.");
    Checks.unchanged("start with an ERROR", RefusalsTest::busy, x -> x.start(1), -9);
    Checks.unchanged("start of an empty TEXT", RefusalsTest::busy, x -> x.start(3), -9);
    Checks.unchanged("start of a new object", RefusalsTest::fresh, x -> x.start(0), -9);
  }

  private static void ticks() {
    Checks.sentence("Throws `IllegalArgumentException` if ticks is not 1 to 200");
    eachRefused("run", Checks.beyond(1, 200), Pagekernel::run, Checks.ARGUMENT);
    Checks.unchanged("run without a PROCESS", RefusalsTest::fresh, x -> x.run(1), 0);
    Checks.unchanged("run without a PROCESS", RefusalsTest::fresh, x -> x.run(200), 0);
    Checks.unchanged("step without a PROCESS", RefusalsTest::fresh, x -> x.step(), -1);
    Checks.due("run(1)", busy().run(1), 1);
    Checks.due("run(200)", busy().run(200), 200);
    Checks.sentence("Throws `IllegalArgumentException` if quantum is not 1 to 10");
    eachRefused("quantum", Checks.beyond(1, 10), Pagekernel::quantum, Checks.ARGUMENT);
    Pagekernel x = fresh();
    Checks.due("quantum(1)", x.quantum(1), 3);
    Checks.due("quantum(10)", x.quantum(10), 1);
    Checks.due("quantum(10)", x.quantum(3), 10);
    Checks.sentence("Throws `IllegalArgumentException` if signal is not 1 to 3");
    for (int pid : new int[] {0, 1, 2, 4, 99}) {
      eachRefused("send to " + pid, Checks.beyond(1, 3), (y, v) -> y.send(pid, v), Checks.ARGUMENT);
    }
    Checks.sentence("Returns 1 if it has it now, 0 if that PROCESS is not READY or WAITING.");
    for (int signal = 1; signal <= 3; signal++) {
      int s = signal;
      for (int pid : new int[] {ENDED, GONE, 0, -1, 5, 61, Integer.MIN_VALUE, Integer.MAX_VALUE}) {
        Checks.unchanged("send to " + pid, RefusalsTest::busy, y -> y.send(pid, s), 0);
      }
      Checks.due("send to one that WAITS", busy().send(1, s), 1);
      Checks.due("send to one that is READY", busy().send(3, s), 1);
    }
  }

  private static void processes() {
    Checks.sentence("Throws `IndexOutOfBoundsException` if that PID was never given");
    eachRefused("ofProcess", NEVER_GIVEN, (x, v) -> x.ofProcess(v, 12), Checks.INDEX);
    eachRefused("can", NEVER_GIVEN, Pagekernel::can, Checks.INDEX);
    eachRefused("where", NEVER_GIVEN, Pagekernel::where, Checks.INDEX);
    eachRefused("cell", NEVER_GIVEN, (x, v) -> x.cell(v, 7), Checks.INDEX);
    eachRefused("local", NEVER_GIVEN, (x, v) -> x.local(v, -1, 8), Checks.INDEX);
    eachRefused("function", NEVER_GIVEN, (x, v) -> x.function(v, -1), Checks.INDEX);
    eachRefused("descriptor", NEVER_GIVEN, (x, v) -> x.descriptor(v, 6), Checks.INDEX);
    eachRefused("children", NEVER_GIVEN, Pagekernel::children, Checks.INDEX);
    eachRefused("waitsIn", NEVER_GIVEN, Pagekernel::waitsIn, Checks.INDEX);
    eachRefused("handler", NEVER_GIVEN, (x, v) -> x.handler(v, 3), Checks.INDEX);
    Checks.sentence("Returns STATE of the PROCESS with that PID; 0, if it was never given.");
    for (int pid : NEVER_GIVEN) {
      Checks.unchanged("state(" + pid + ")", RefusalsTest::busy, x -> x.state(pid), 0);
    }
    Checks.unchanged("press of nobody", RefusalsTest::busy, x -> x.press(5), 0);
    for (int pid = 1; pid <= 4; pid++) {
      int p = pid;
      Checks.sentence("Throws `IllegalArgumentException` if what is not 0 to 11");
      for (int what : Checks.beyond(0, 11)) {
        Checks.unchanged("ofProcess(" + p + ", " + what + ")", RefusalsTest::busy, x -> x.ofProcess(p, what), Checks.ARGUMENT);
      }
      Checks.sentence("Throws `IndexOutOfBoundsException` if that PID was never given, or name is not 0 to 7");
      for (int name : Checks.beyond(0, 7)) {
        Checks.unchanged("local of " + p + ", name " + name, RefusalsTest::busy, x -> x.local(p, 0, name), Checks.INDEX);
        Checks.unchanged("local of " + p + ", no FRAME, name " + name, RefusalsTest::busy, x -> x.local(p, 99, name), Checks.INDEX);
      }
      Checks.sentence("Throws `IndexOutOfBoundsException` if that PID was never given, or descriptor is not 0 to 5");
      for (int descriptor : Checks.beyond(0, 5)) {
        Checks.unchanged("descriptor " + descriptor + " of " + p, RefusalsTest::busy, x -> x.descriptor(p, descriptor), Checks.INDEX);
      }
      Checks.sentence("Throws `IllegalArgumentException` if signal is not 1 or 2");
      for (int signal : Checks.beyond(1, 2)) {
        Checks.unchanged("handler " + signal + " of " + p, RefusalsTest::busy, x -> x.handler(p, signal), Checks.ARGUMENT);
      }
    }
  }

  private static Pagekernel given(int many) {
    Pagekernel x = fresh();
    for (int i = 0; i < many; i++) {
      x.give(i);
    }
    return x;
  }

  private static void outside() {
    Checks.sentence("Throws `IllegalArgumentException` if what is not 0 to 2");
    eachRefused("turn", Checks.beyond(0, 2), Pagekernel::turn, Checks.ARGUMENT);
    Checks.sentence("Throws `IllegalStateException` if there are 10");
    Checks.due("a tenth INPUT", given(9).give(7), 10);
    Checks.unchanged("an eleventh INPUT", () -> given(10), x -> x.give(7), Checks.STATE);
    Checks.sentence("Throws `IllegalArgumentException` if from is below 0");
    eachRefused("out", new int[] {-1, -2, Integer.MIN_VALUE}, Pagekernel::out, Checks.ARGUMENT);
    Checks.unchanged("out(0)", RefusalsTest::fresh, x -> x.out(0), "");
    Checks.unchanged("out far off", RefusalsTest::busy, x -> x.out(Integer.MAX_VALUE), "");
    Checks.sentence("Throws `IndexOutOfBoundsException` if pipe is not 0 to 3");
    eachRefused("ofPipe", Checks.beyond(0, 3), (x, v) -> x.ofPipe(v, 3), Checks.INDEX);
    eachRefused("inPipe", Checks.beyond(0, 3), Pagekernel::inPipe, Checks.INDEX);
    Checks.sentence("Throws `IllegalArgumentException` if what is not 0 to 2");
    for (int pipe = 0; pipe < 4; pipe++) {
      int p = pipe;
      eachRefused("ofPipe of " + pipe, Checks.beyond(0, 2), (x, v) -> x.ofPipe(p, v), Checks.ARGUMENT);
    }
  }

  private static void files() {
    Checks.sentence("Throws `IndexOutOfBoundsException` if name is not 0 to 7");
    eachRefused("store", Checks.beyond(0, 7), (x, v) -> x.store(v, 1), Checks.INDEX);
    eachRefused("remove", Checks.beyond(0, 7), Pagekernel::remove, Checks.INDEX);
    eachRefused("size", Checks.beyond(0, 7), Pagekernel::size, Checks.INDEX);
    eachRefused("inFile", Checks.beyond(0, 7), Pagekernel::inFile, Checks.INDEX);
    for (int name : new int[] {0, 7}) {
      Checks.due("store(" + name + ")", fresh().store(name, 1), 1);
      Checks.due("size(" + name + ")", fresh().size(name), -1);
      Checks.due("inFile(" + name + ")", fresh().inFile(name), "-");
      Checks.unchanged("remove without a FILE", RefusalsTest::busy, x -> x.remove(name), 0);
    }
    Checks.unchanged("sync with nothing PENDING", RefusalsTest::fresh, x -> x.sync(), 0);
    Checks.sentence("Throws `IllegalArgumentException` if n is not 0 to how many are PENDING");
    for (boolean isTorn : new boolean[] {false, true}) {
      Checks.allRefused("crash with 3 PENDING", RefusalsTest::busy, Checks.beyond(0, 3), (x, v) -> x.crash(v, isTorn), Checks.ARGUMENT);
      Checks.allRefused("crash with none PENDING", RefusalsTest::fresh, Checks.beyond(0, 0), (x, v) -> x.crash(v, isTorn), Checks.ARGUMENT);
      Checks.due("crash(0)", busy().crash(0, isTorn), 1);
      Checks.due("crash(3)", busy().crash(3, isTorn), 2);
    }
    Checks.allRefused("would with 3 PENDING", RefusalsTest::busy, Checks.beyond(0, 3), Pagekernel::would, Checks.ARGUMENT);
    Checks.allRefused("would with none PENDING", RefusalsTest::fresh, Checks.beyond(0, 0), Pagekernel::would, Checks.ARGUMENT);
    Checks.sentence("Throws `IllegalArgumentException` if k is not 0 to 99");
    eachRefused("halted", Checks.beyond(0, 99), Pagekernel::halted, Checks.ARGUMENT);
    Checks.due("halted(0)", busy().halted(0), 2);
    Checks.due("halted(99)", busy().halted(99), 2);
  }

  private static void innerThings() {
    Checks.sentence("Throws `IllegalArgumentException` if frames is not 8 to 40");
    eachRefused("frames", Checks.beyond(8, 40), Pagekernel::frames, Checks.ARGUMENT);
    Pagekernel x = busy();
    Checks.due("frames at first", x.frames(8), 12);
    Checks.due("frames(8)", x.frames(40), 8);
    Checks.due("frames(40)", x.frames(12), 40);
    Checks.sentence("Throws `IllegalArgumentException` if level is not 0 to 2");
    eachRefused("level", Checks.beyond(0, 2), Pagekernel::level, Checks.ARGUMENT);
    Checks.due("level at first", x.level(2), 0);
    Checks.due("level(2)", x.level(0), 2);
    Checks.due("level(0)", x.level(1), 0);
    Checks.sentence("Throws `IllegalArgumentException` if what is not 0 to 13");
    eachRefused("house", Checks.beyond(0, 13), Pagekernel::house, Checks.ARGUMENT);
  }

  /** What only asks changes nothing, and answers the same again. */
  private static void asking() {
    Checks.sentence("A method that throws an exception changes nothing.");
    Checks.Call[] asked = {x -> x.length(0), x -> x.token(0, 3), x -> x.text(0), x -> x.error(1), x -> x.kind(1), x -> x.isLocal(0, 0, 1), x -> x.state(1), x -> x.can(3),
      x -> x.where(1), x -> x.cell(1, 16), x -> x.local(1, 0, 1), x -> x.function(1, 0), x -> x.descriptor(1, 2), x -> x.children(1), x -> x.waitsIn(1), x -> x.handler(1, 1),
      x -> x.inputs(), x -> x.out(1), x -> x.ofPipe(0, 0), x -> x.inPipe(0), x -> x.size(3), x -> x.inFile(3), x -> x.would(0), x -> x.would(3), x -> x.isSound(), x -> x.digest()};
    for (int i = 0; i < asked.length; i++) {
      Object first = Checks.answer(busy(), asked[i]);
      Checks.due("an answer of call " + i, first instanceof Class, false);
      Checks.unchanged("call " + i, RefusalsTest::busy, asked[i], first);
    }
    for (int what = 0; what <= 13; what++) {
      int w = what;
      Checks.unchanged("house(" + w + ")", RefusalsTest::busy, x -> x.house(w), Checks.answer(busy(), x -> x.house(w)));
      if (what <= 11) {
        Checks.unchanged("ofProcess(1, " + w + ")", RefusalsTest::busy, x -> x.ofProcess(1, w), Checks.answer(busy(), x -> x.ofProcess(1, w)));
      }
      if (what <= 2) {
        Checks.unchanged("turn(" + w + ")", RefusalsTest::busy, x -> x.turn(w), Checks.answer(busy(), x -> x.turn(w)));
      }
    }
  }

  public static void main(String[] arguments) {
    theBusyOneIsBusy();
    programs();
    tokensTyped();
    fullTexts();
    texts();
    starts();
    ticks();
    processes();
    outside();
    files();
    innerThings();
    asking();
    Checks.end();
  }
}
