/** The promises one by one, with the sentences that no other test of edges is about: what is told at first, of none, of the least and the greatest. */
public final class PromisesTest {
  private static final int LEAST = Integer.MIN_VALUE;
  private static final int MOST = Integer.MAX_VALUE;
  private static final String LOOP = "F ( ) { while ( 1 ) ; }";
  private static final String EMPTY = "F ( ) { }";

  private static void newObject() {
    Checks.sentence("Creates a machine without programs, processes and files.");
    Pagekernel x = new Pagekernel();
    for (int program = 0; program < 4; program++) {
      Checks.due("program", x.length(program) + x.text(program) + x.kind(program) + x.error(program) + x.start(program), "010-9");
    }
    for (int pid = -1; pid <= 61; pid++) {
      Checks.due("process", x.state(pid) + x.press(pid) + x.send(pid, 1), 0);
    }
    for (int name = 0; name < 8; name++) {
      Checks.due("file", x.size(name) + x.inFile(name) + x.remove(name), "-1-0");
    }
    Checks.due("what is told", x.inputs() + x.out(0) + x.would(0), "");
    Checks.due("TICKS", x.step() * 10 + x.run(1), -10);
    Checks.due("isSound()", x.isSound(), true);
    // one object is nothing to another one
    Pagekernel y = Checks.begun("F ( ) { open ( 1 , 1 ) ; put ( 1 ) ; get ( y ) ; }", 3);
    Checks.due("OUTS of the other one", y.out(0), "1:1");
    Checks.due("digest() of a third one", new Pagekernel().digest(), x.digest());
  }

  private static void dropped() {
    Checks.sentence("Drops TOKENS at the end.");
    Pagekernel x = Checks.with("F ( ) { a = 1 ; }");
    Checks.due("none", x.drop(0, 0) + x.text(0), "9F ( ) { a = 1 ; }");
    Checks.due("one", x.drop(0, 1) + x.text(0), "8F ( ) { a = 1 ;");
    Checks.due("many", x.drop(0, 7) + x.text(0), "1F");
    Checks.due("all", x.drop(0, 1) + x.text(0), "0");
    Checks.due("none of none", x.drop(0, 0), 0);
    x.type(0, 5, 6, -1, -1, -1);
    Checks.due("new ones in their places", x.text(0), "5 6");
    Checks.sentence("Returns the TOKEN there.");
    Checks.due("the first and the last", x.token(0, 0) * 10 + x.token(0, 1), 56);
    Checks.due("one that was dropped", Checks.answer(x, y -> y.token(0, 2)), Checks.INDEX);
  }

  private static void started() {
    Checks.sentence("A PROCESS begins, with the parent 0; if F has no STATEMENT that begins, it returns at once.");
    Checks.sentence("Returns its PID; -9, if the TEXT has an ERROR.");
    for (int program = 0; program < 4; program++) {
      Pagekernel x = new Pagekernel();
      Checks.write(x, program, LOOP);
      Checks.due("PID", x.start(program), 1);
      int[] due = {0, 1, 32, 0, 0, program, 0, 0, 0, 0, 0, 0};
      for (int what = 0; what <= 11; what++) {
        Checks.due("ofProcess(1, " + what + ") at first", x.ofProcess(1, what), due[what]);
      }
      Checks.due("handlers", x.handler(1, 1) + x.handler(1, 2), 0);
      Checks.due("others of an ERROR", x.start((program + 1) % 4) + x.start((program + 3) % 4), -18);
      Checks.due("no PID for these", x.house(8), 1);
    }
    Checks.sentence("the PROGRAM as it was as it began (or by exec), and a parent (0: nobody).");
    Pagekernel y = Checks.begun("F ( ) { a = 1 ; a = 2 ; a = 3 ; fork ( ) ; exec ( 0 ) ; }", 1);
    Checks.write(y, 0, "F ( ) { put ( 9 ) ; get ( y ) ; }");
    Checks.ticks(y, 1);
    Checks.due("as it began", y.cell(1, 8), "2");
    y.run(9);
    Checks.due("by exec, the child too", y.out(0) + "/" + y.state(1) + y.state(2), "1:9 2:9/22");
    Checks.write(y, 0, "F ( ) { ) ) )");
    Checks.due("where in its TEXT", y.where(1) + "/" + y.local(1, 0, 0), "9/-");
  }

  private static void goingOn() {
    Checks.sentence("To GO ON: behind a STATEMENT comes the next one by the form: behind the STATEMENT of a \"while\" that \"while\" again; at the end of the BLOCK of a FUNCTION it returns 0;");
    Pagekernel x = Checks.begun("G ( ) { while ( b < 2 ) { if ( b ) { b = 2 ; } else { b = 1 ; } } } F ( ) { a = 7 ; a = G ( ) ; { ; } }", 0);
    int[] places = {34, 38, 4, 11, 23, 4, 11, 16, 4, 45};
    for (int i = 0; i < places.length; i++) {
      Checks.due("place " + i, x.where(1), places[i]);
      x.step();
    }
    Checks.due("a is 0, and so is CODE", x.state(1) * 10 + x.ofProcess(1, 7), 40);
    Pagekernel y = Checks.begun("G ( ) { ; } F ( ) { a = 7 ; a = G ( ) ; get ( y ) ; }", 3);
    Checks.due("at the end of a BLOCK", y.cell(1, 8), "0");
    Checks.sentence("\"if\" and \"while\" reckon E and GO ON by that, \"break\" goes behind its \"while\";");
    Checks.due("not 0 is enough", Checks.outs("F ( ) { if ( - 5 ) put ( 1 ) ; while ( 16 * 16 ) { put ( 2 ) ; break ; put ( 3 ) ; } put ( 4 ) ; if ( 3 - 3 ) put ( 5 ) ; while ( b ) put ( 6 ) ; }"), "1:1 1:2 1:4");
    Checks.sentence("What ends a PROCESS ends its TICK.");
    String[] ends = {"exit ( 1 ) ;", "return 1 ;", "a = 1 / 0 ;", "a = * 7 ;"};
    for (String end : ends) {
      Pagekernel z = Checks.begun("F ( ) { " + end + " put ( 1 ) ; }", 0);
      Checks.due("TICKS of " + end, z.run(200), 1);
      Checks.due("OUTS and STATE of " + end, z.out(0) + z.state(1), "4");
    }
    Checks.sentence("Without such a PROCESS there is no TICK.");
    Pagekernel w = Checks.begun("F ( ) { get ( y ) ; }", 1);
    Checks.due("none", w.step() * 100 + w.run(200) * 10 + w.house(6), -99);
    Checks.due("TURN stays", w.turn(0) * 10 + w.turn(1), 11);
    Checks.due("none would have it", w.turn(2), -1);
  }

  private static void quantumsAndSignals() {
    Checks.sentence("Tells QUANTUM.");
    Pagekernel x = new Pagekernel();
    int before = 3;
    for (int quantum = 10; quantum >= 1; quantum--) {
      Checks.due("the one before", x.quantum(quantum), before);
      Checks.due("house(7)", x.house(7), quantum);
      before = quantum;
    }
    Checks.sentence("A signal is sent by nobody.");
    for (int signal = 1; signal <= 3; signal++) {
      Pagekernel y = Checks.begun("F ( ) { get ( y ) ; }", 0);
      Checks.due("to one that is READY", y.send(1, signal) * 10 + y.ofProcess(1, 3), 10 + (1 << signal - 1));
      Checks.due("no TICK by that", y.house(6), 0);
      Pagekernel z = Checks.begun("F ( ) { get ( y ) ; get ( y ) ; }", 1);
      Checks.due("to one that WAITS", z.send(1, signal) * 10 + z.ofProcess(1, 3), 10 + (1 << signal - 1));
      Checks.due("it WAITS still", z.state(1), 2);
      z.run(2);
      Checks.due("by it", z.ofProcess(1, 7), 100 + signal);
    }
  }

  private static void toldOfProcesses() {
    Checks.sentence("7 CODE, 8 WHY (7 and 8: 0 till it ends),");
    Pagekernel x = Checks.begun("F ( ) { ; return 5 ; }", 1);
    Checks.due("before", x.ofProcess(1, 7) * 10 + x.ofProcess(1, 8), 0);
    Checks.ticks(x, 1);
    Checks.due("then", x.ofProcess(1, 7) * 10 + x.ofProcess(1, 8), 51);
    Checks.sentence("It ends with a CODE and a WHY (1 it returned from F or by exit; 2 to 4 TRAPS; 5 by a signal; 6 by a crash):");
    String[] texts = {"F ( ) { return 4 ; }", "F ( ) { exit ( 4 ) ; }", "F ( ) { a = * 7 ; }", "F ( ) { a = 1 / 0 ; }", "F ( ) { F ( ) ; }", LOOP, LOOP};
    int[] codes = {4, 4, 201, 202, 203, 103, 0};
    int[] whys = {1, 1, 2, 3, 4, 5, 6};
    for (int i = 0; i < texts.length; i++) {
      Pagekernel y = Checks.begun(texts[i], 0);
      if (i == 5) {
        y.send(1, 3);
      }
      y.run(20);
      if (i == 6) {
        y.crash(0, false);
      }
      Checks.due("CODE and WHY of " + texts[i], y.ofProcess(1, 7) * 10 + y.ofProcess(1, 8), codes[i] * 10 + whys[i]);
    }
    Checks.sentence("Returns where it leads: \"-\" nowhere (or the PROCESS is ENDED or GONE); \"r\" or \"w\" and the PIPE; \"f\", the name of the FILE (\"-\" without one), \"@\", the position, \":\", the mode.");
    for (int mode = 0; mode <= 3; mode++) {
      for (int cells = 0; cells <= 16; cells += 8) {
        Pagekernel y = Checks.begun("F ( ) { get ( y ) ; open ( 7 , " + mode + " ) ; while ( a < " + cells + " ) { a = a + 1 ; if ( " + mode + " ) write ( 0 , a ) ; else read ( 0 , & b ) ; } get ( y ) ; }", 0);
        for (int i = 0; i < 16 && mode == 0; i++) {
          y.store(7, i);
        }
        y.give(0);
        y.run(200);
        Checks.due("descriptor", y.descriptor(1, 0), "f7@" + cells + ":" + mode);
        y.store(7, 1);
        y.remove(7);
        Checks.due("without a name", y.descriptor(1, 0), "f-@" + cells + ":" + mode);
        Checks.due("nowhere", y.descriptor(1, 5), "-");
      }
    }
    Checks.sentence("Returns its handler: 0 none, 1 G to 3 I;");
    Pagekernel z = Checks.begun("G ( a ) { } H ( a ) { } I ( a ) { } F ( ) { while ( a < 4 ) { on ( 1 , a ) ; on ( 2 , 3 - a ) ; get ( y ) ; a = a + 1 ; } }", 0);
    for (int k = 0; k < 4; k++) {
      z.run(9);
      Checks.due("handlers", z.handler(1, 1) * 10 + z.handler(1, 2), k * 10 + 3 - k);
      z.give(0);
    }
  }

  private static void functionsAndLocals() {
    Checks.sentence("Returns its FUNCTION: 0 F to 3 I; NONE, if there is no such FRAME, or the PROCESS is ENDED or GONE.");
    Pagekernel x = Checks.begun("G ( a ) { I ( 1 ) ; } H ( b ) { G ( 2 ) ; } I ( c ) { get ( y ) ; } F ( ) { H ( 3 ) ; }", 3);
    int[] due = {-1, 0, 2, 1, 3, -1};
    for (int frame = -1; frame <= 4; frame++) {
      Checks.due("FRAME " + frame, x.function(1, frame), due[frame + 1]);
    }
    for (int frame : new int[] {LEAST, MOST, 12, 99}) {
      Checks.due("FRAME " + frame, x.function(1, frame) + x.local(1, frame, 0), "-1-");
    }
    Checks.sentence("Returns what that NAME is in it; \"-\", if it is not LOCAL there, there is no such FRAME, or the PROCESS is ENDED or GONE.");
    Checks.due("parameters", x.local(1, 1, 1) + x.local(1, 2, 0) + x.local(1, 3, 2), "321");
    Checks.due("not LOCAL", x.local(1, 0, 0) + x.local(1, 1, 0) + x.local(1, 2, 1) + x.local(1, 3, 7), "----");
    Checks.sentence("Returns whether it CAN GO ON.");
    Checks.due("it is READY", x.can(1), true);
    Checks.ticks(x, 1);
    Checks.due("it WAITS", x.can(1), false);
    x.give(1);
    Checks.due("it CAN", x.can(1), true);
    x.send(1, 3);
    x.run(9);
    Checks.due("it is GONE", x.can(1), false);
  }

  private static void turnsAndInputs() {
    Checks.sentence("`what`: 0 TURN (PID or NONE), 1 USED (0 if TURN is NONE), 2 the PID that would have the next TICK (NONE)");
    Pagekernel x = Checks.with(LOOP);
    Checks.due("at first", x.turn(0) + "/" + x.turn(1) + "/" + x.turn(2), "-1/0/-1");
    x.start(0);
    Checks.due("with one that had no TICK", x.turn(0) + "/" + x.turn(1) + "/" + x.turn(2), "-1/0/1");
    x.step();
    Checks.due("with its first", x.turn(0) + "/" + x.turn(1) + "/" + x.turn(2), "1/1/1");
    x.send(1, 3);
    x.step();
    Checks.due("when it is GONE", x.turn(0) + "/" + x.turn(1) + "/" + x.turn(2), "1/2/-1");
    x.crash(0, false);
    Checks.due("behind a crash", x.turn(0) + "/" + x.turn(1) + "/" + x.turn(2), "-1/0/-1");
    Checks.sentence("An INPUT comes behind the others.");
    Pagekernel y = Checks.begun("F ( ) { while ( 1 ) { get ( & a ) ; put ( a ) ; } }", 1);
    y.give(LEAST);
    y.give(MOST);
    Checks.due("in their order", y.inputs(), LEAST + " " + MOST);
    Checks.ticks(y, 2);
    y.give(0);
    Checks.due("behind them", y.inputs(), MOST + " 0");
    y.run(200);
    Checks.due("all of them", y.out(0), "1:" + LEAST + " 1:" + MOST + " 1:0");
  }

  private static void files() {
    Checks.sentence("Drops a name, as unlink().");
    Pagekernel x = new Pagekernel();
    for (int name = 0; name < 8; name++) {
      Checks.due("none", x.remove(name) * 10 + x.house(5), 0);
    }
    for (int name = 0; name < 8; name++) {
      x.store(name, name);
    }
    for (int name = 0; name < 8; name++) {
      x.sync();
      Checks.due("one, an ACT", x.remove(name) * 10 + x.house(5), 11);
      Checks.due("FILES", x.house(3), 7 - name);
    }
    Checks.sentence("Returns how many cells its FILE has; NONE without one.");
    Checks.due("size", x.size(0) + x.size(7), -2);
    Pagekernel y = Checks.begun("F ( ) { open ( 5 , 3 ) ; get ( y ) ; }", 1);
    Checks.due("size without cells", y.size(5), 0);
    Checks.sentence("A SYNC.");
    for (int acts = 0; acts <= 19; acts++) {
      Pagekernel z = new Pagekernel();
      z.store(0, 1);
      z.store(1, 1);
      z.sync();
      for (int i = 0; i < acts; i++) {
        z.store(i % 2, i);
      }
      String now = z.would(acts);
      Checks.due("how many were PENDING", z.sync(), acts);
      Checks.due("then", z.sync() + z.house(5) + z.would(0), "0" + now);
      Checks.due("a crash loses nothing", z.crash(0, true) + z.would(0), "2" + now);
    }
  }

  private static void inner() {
    Checks.sentence("Tells how many pages the machine's own memory has (at first 12).");
    Pagekernel x = Checks.begun(LOOP, 1);
    long digest = x.digest();
    int before = 12;
    for (int frames = 8; frames <= 40; frames++) {
      Checks.due("the one before", x.frames(frames), before);
      before = frames;
    }
    Checks.sentence("Tells LEVEL (at first 0).");
    for (int level = 0; level <= 2; level++) {
      Checks.due("the one before", x.level(level), level == 0 ? 0 : level - 1);
    }
    Checks.sentence("Returns 1 if that PROCESS is READY or WAITING, otherwise 0.");
    Checks.due("READY", x.press(1), 1);
    Checks.due("nothing can be seen of it", x.digest(), digest);
    for (int pid : new int[] {LEAST, -1, 0, 2, 60, 61, MOST}) {
      Checks.due("nobody", x.press(pid), 0);
    }
    Pagekernel y = Checks.begun("F ( ) { a = fork ( ) ; if ( a == 0 ) exit ( 1 ) ; get ( y ) ; }", 0);
    y.run(20);
    Checks.due("WAITING and ENDED", y.press(1) * 10 + y.press(2), 10);
    y.send(1, 3);
    y.run(9);
    Checks.due("GONE", y.press(1) + y.press(2), 0);
    Checks.sentence("Knocks.");
    Checks.due("once, twice", y.knock() * 10 + y.knock(), 12);
    Checks.sentence("code of LEVEL 2 of each TEXT without ERROR has no more steps than that of LEVEL 0;");
    for (int k = 0; k < 8; k++) {
      Pagekernel z = new Pagekernel();
      String[] due = new String[3];
      for (int level = 0; level <= 2; level++) {
        z = new Pagekernel();
        z.sample(0, 0);
        z.sample(3, k);
        z.level(level);
        z.start(3);
        z.run(150);
        Checks.due("isSound() with SAMPLE " + k, z.isSound(), true);
        due[level] = z.out(0) + "/" + z.digest();
      }
      Checks.due("LEVEL 1", due[1], due[0]);
      Checks.due("LEVEL 2", due[2], due[0]);
    }
    Pagekernel w = Checks.with(EMPTY);
    Checks.due("an empty one", w.isSound(), true);
  }

  /** What a child has of its parent, at the edges of each: all cells, all FRAMES, all DESCRIPTORS. */
  private static void children() {
    Checks.sentence("Otherwise a child begins: it has all that its parent has (the PROGRAM as its parent has it, MEMORY, BREAK, FRAMES, DESCRIPTORS, handlers, what is HELD), but no signals;");
    Pagekernel x = Checks.begun("G ( a ) { int d ; d = a * 3 ; if ( a < 11 ) G ( a + 1 ) ; else { fork ( ) ; } get ( y ) ; } H ( a ) { } F ( ) { grow ( 8 * 8 ) ; while ( b < 12 * 8 - 16 ) { x [ b ] = b + 1 ; b = b + 1 ; } "
        + "on ( 2 , 2 ) ; b = 0 ; while ( b < 6 ) { open ( b , 3 ) ; b = b + 1 ; } G ( 1 ) ; }", 0);
    Checks.due("kind", x.kind(0), 0);
    for (int i = 0; i < 120 && x.house(8) == 1; i++) {
      x.run(4);
    }
    Checks.due("FRAMES", x.ofProcess(1, 1) + "/" + x.ofProcess(2, 1), "12/12");
    for (int address = 8; address < 96; address++) {
      Checks.due("cell " + address, x.cell(2, address), x.cell(1, address));
    }
    Checks.due("the last cell", x.cell(2, 95), "80");
    for (int frame = 0; frame <= 12; frame++) {
      Checks.due("FRAME " + frame, x.function(2, frame) + x.local(2, frame, 0) + x.local(2, frame, 3), x.function(1, frame) + x.local(1, frame, 0) + x.local(1, frame, 3));
    }
    Checks.due("the last FRAME", x.local(2, 11, 0) + x.local(2, 11, 3), "1133");
    for (int descriptor = 0; descriptor < 6; descriptor++) {
      Checks.due("descriptor", x.descriptor(2, descriptor), "f" + descriptor + "@0:3");
    }
    Checks.due("BREAK, handlers, PROGRAM", x.ofProcess(2, 2) + "/" + x.handler(2, 1) + x.handler(2, 2) + "/" + x.ofProcess(2, 5), "96/02/0");
    Checks.due("OPENINGS", x.house(13), 6);
    // what one stores then is nothing to the other one
    Pagekernel y = Checks.begun("F ( ) { int c ; grow ( 8 * 8 ) ; c = 16 ; while ( c < 12 * 8 ) { * c = 5 ; c = c + 1 ; } a = fork ( ) ; if ( a ) c = 16 ; else c = 17 ; while ( c < 12 * 8 ) { * c = c ; c = c + 2 ; } get ( y ) ; }", 0);
    for (int i = 0; i < 4; i++) {
      y.run(200);
      y.press(1 + i % 2);
    }
    for (int address = 16; address < 96; address++) {
      Checks.due("cell " + address, y.cell(1, address) + "/" + y.cell(2, address), address % 2 == 0 ? address + "/5" : "5/" + address);
    }
    Checks.due("isSound()", y.isSound(), true);
  }

  private static void handled() {
    Checks.sentence("One with a handler: it does not have it any more,");
    Pagekernel x = Checks.begun("I ( b ) { a = a + 1 ; } F ( ) { on ( 1 , 3 ) ; on ( 2 , 3 ) ; while ( 1 ) ; }", 2);
    for (int i = 1; i <= 4; i++) {
      x.send(1, 1 + i % 2);
      Checks.due("it has it", x.ofProcess(1, 3), 1 + i % 2);
      Checks.ticks(x, 1);
      Checks.due("no more", x.ofProcess(1, 3), 0);
      Checks.due("HELD", x.ofProcess(1, 4), 1 + i % 2);
      Checks.ticks(x, 1);
      Checks.due("done once", x.cell(1, 8) + x.ofProcess(1, 4), i + "0");
    }
  }

  public static void main(String[] arguments) {
    newObject();
    dropped();
    started();
    goingOn();
    quantumsAndSignals();
    toldOfProcesses();
    functionsAndLocals();
    turnsAndInputs();
    files();
    inner();
    children();
    handled();
    Checks.end();
  }
}
