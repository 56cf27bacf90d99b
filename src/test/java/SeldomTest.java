import java.util.ArrayList;
import java.util.List;

/** What happens seldom: deep E, far CODES, signals that meet, several that WAIT for the same thing, long pasts of FILES. */
public final class SeldomTest {
  private static final int LEAST = Integer.MIN_VALUE;
  private static final int MOST = Integer.MAX_VALUE;
  private static final String LOOP = "F ( ) { while ( 1 ) ; }";

  // ---- TEXTS and E

  private static void eachProgram() {
    Checks.sentence("Returns 1 if that NAME is LOCAL there, 0 if it is GLOBAL; NONE, if the TEXT has an ERROR, or the FUNCTION is not defined.");
    for (int program = 0; program < 4; program++) {
      Pagekernel x = new Pagekernel();
      Checks.write(x, program, "H ( c ) { int g ; } F ( ) { int b ; } I ( d , e ) { }");
      String[] locals = {"b", null, "cg", "de"};
      for (int function = 0; function < 4; function++) {
        for (int name = 0; name < 8; name++) {
          int due = locals[function] == null ? -1 : locals[function].contains(Checks.sign(20 + name)) ? 1 : 0;
          Checks.due("isLocal(" + program + ", " + function + ", " + name + ")", x.isLocal(program, function, name), due);
          Checks.due("of another PROGRAM", x.isLocal((program + 1) % 4, function, name), -1);
        }
      }
    }
  }

  private static void deepE() {
    Checks.sentence("E is reckoned from left to right, what stands left of a sign ahead of what stands right.");
    for (int level = 0; level <= 2; level++) {
      for (int deep = 0; deep <= 13; deep++) {
        // five that stand left wait in each ROW for what stands right; x [ 0 ] is 1 and x [ 1 ] is 0
        Pagekernel x = Checks.with("F ( ) { x [ 0 ] = 1 ; put ( " + Checks.times("1 == 1 < 1 + 1 * x [", deep) + "0 " + Checks.times("]", deep) + ") ; }");
        x.level(level);
        x.start(0);
        x.run(9);
        Checks.due(deep + " deep", x.out(0), "1:" + deep % 2);
      }
      for (int deep = 0; deep <= 36; deep++) {
        Pagekernel x = Checks.with("F ( ) { a = 1 ; put ( " + Checks.times("( a -", deep) + "a " + Checks.times(")", deep) + ") ; }");
        x.level(level);
        x.start(0);
        x.run(9);
        Checks.due("1 - (1 - .., " + deep + " deep", x.out(0), "1:" + (1 - deep % 2));
      }
    }
  }

  private static void farCodes() {
    Checks.sentence("A return from the first FRAME ends the PROCESS, its value is CODE;");
    for (int code : new int[] {LEAST, -65536, -256, -1, 0, 1, 127, 128, 255, 256, 65535, 65536, MOST}) {
      for (String end : new String[] {"return a ;", "exit ( a ) ;"}) {
        Pagekernel x = Checks.begun("G ( a ) { return a ; } F ( ) { b = fork ( ) ; if ( ! b ) { get ( & a ) ; a = G ( a ) ; " + end + " } b = wait ( & c ) ; get ( y ) ; }", 0);
        x.give(code);
        x.run(60);
        Checks.due("CODE by " + end, x.ofProcess(2, 7), code);
        Checks.due("told and stored", x.cell(1, 9) + "/" + x.cell(1, 10), "2/" + code);
      }
    }
    Checks.sentence("A TRAP k ends the PROCESS: CODE 200 + k, WHY 1 + k.");
    String[] ends = {"a = * 7 ;", "a = 1 % 0 ;", "F ( ) ;", "kill ( 2 , 1 ) ; ;", "kill ( 2 , 2 ) ; ;", "kill ( 2 , 3 ) ; ;"};
    int[] codes = {201, 202, 203, 101, 102, 103};
    for (int i = 0; i < ends.length; i++) {
      Pagekernel x = Checks.begun("F ( ) { if ( ! e ) { b = fork ( ) ; e = 1 ; if ( b ) { b = wait ( & c ) ; get ( y ) ; } } " + ends[i] + " }", 0);
      x.run(90);
      Checks.due("the parent is told of " + ends[i], x.cell(1, 9) + "/" + x.cell(1, 10), "2/" + codes[i]);
      Checks.due("WHY", x.ofProcess(2, 8), i < 3 ? 2 + i : 5);
    }
  }

  // ---- signals

  /** 1 has the child 2, that has 3, that has 4: each may signal each, itself too. */
  private static void killsInAFamily() {
    Checks.sentence("kill(p, s): -1 if s is not 1 to 3, or the PROCESS p is not READY or WAITING; otherwise s is a signal of that (once); 0.");
    for (int from = 1; from <= 4; from++) {
      for (int to = 1; to <= 5; to++) {
        Pagekernel x = Checks.begun("F ( ) { while ( a < 3 ) { b = fork ( ) ; if ( b ) a = 9 ; else a = a + 1 ; } b = pid ( ) ; get ( & d ) ; c = 9 ; if ( b == " + from + " ) c = kill ( " + to + " , 2 ) ; while ( 1 ) get ( & d ) ; }", 0);
        x.run(150);
        Checks.due("all WAIT", Checks.states(x), "2222");
        Checks.due("a line of children", x.children(1) + x.children(2) + x.children(3) + x.children(4), "234");
        for (int i = 0; i < 4; i++) {
          x.give(i);
        }
        x.run(100);
        Checks.due("told as " + from + " kills " + to, x.cell(from, 10), from == to ? "-" : to == 5 ? "-1" : "0");
        for (int pid = 1; pid <= 4; pid++) {
          Checks.due("CODE of " + pid + " as " + from + " kills " + to, x.ofProcess(pid, 7), pid == to ? 102 : 0);
        }
      }
    }
    Pagekernel y = Checks.begun("F ( ) { kill ( 1 , 3 ) ; ; ; }", 1);
    Checks.due("itself, with the next TICK", y.state(1) + "/" + y.ofProcess(1, 3) + "/" + y.where(1), "1/4/11");
    Checks.ticks(y, 1);
    Checks.due("then", y.state(1) + "/" + y.ofProcess(1, 7), "4/103");
  }

  private static String locals(Pagekernel x, int frame) {
    StringBuilder all = new StringBuilder();
    for (int name = 0; name < 8; name++) {
      all.append(x.local(1, frame, name)).append(' ');
    }
    return all.toString();
  }

  private static void nothingIsToldByAHandler() {
    Checks.sentence("then the PROCESS GOES ON with the STATEMENT ahead of which it rested (nothing is told to anybody).");
    for (String end : new String[] {"", "return 5 ;", "return ;"}) {
      Pagekernel x = Checks.begun("I ( b ) { int h ; int a ; h = 19 ; a = 18 ; g = 17 ; " + end + " } G ( a , b , c , d , e , f , h ) { int g ; on ( 1 , 3 ) ; g = 8 ; while ( 1 ) g = 8 ; } "
          + "F ( ) { G ( 1 , 2 , 3 , 4 , 5 , 6 , 7 ) ; }", 4);
      Checks.due("LOCAL NAMES", locals(x, 1), "1 2 3 4 5 6 8 7 ");
      int where = x.where(1);
      x.send(1, 1);
      Checks.ticks(x, end.isEmpty() ? 4 : 5);
      Checks.due("where", x.where(1), where);
      Checks.due("HELD", x.ofProcess(1, 4), 0);
      Checks.due("LOCAL NAMES behind it", locals(x, 1), "1 2 3 4 5 6 8 7 ");
      Checks.due("what it stored", x.cell(1, 14), "17");
    }
  }

  private static void signalsMeet() {
    Checks.sentence("To be taken is 3; otherwise, if nothing is HELD, the smaller one of 1 and 2 that it has.");
    Pagekernel x = Checks.begun("I ( b ) { a = a * 10 + b ; } F ( ) { on ( 1 , 3 ) ; on ( 2 , 3 ) ; while ( 1 ) c = c + 1 ; }", 3);
    x.send(1, 2);
    x.send(1, 1);
    String c = x.cell(1, 10);
    Checks.ticks(x, 4);
    Checks.due("one behind the other, no STATEMENT between", x.cell(1, 8) + "/" + x.cell(1, 10) + "/" + x.ofProcess(1, 3), "12/" + c + "/0");
    // a handler without a STATEMENT: its TICK is all
    Pagekernel y = Checks.begun("I ( b ) { } F ( ) { on ( 2 , 3 ) ; a = 1 ; a = 2 ; a = 3 ; get ( y ) ; }", 2);
    y.send(1, 2);
    int where = y.where(1);
    Checks.ticks(y, 1);
    Checks.due("a TICK, and no STATEMENT", y.cell(1, 8) + "/" + (y.where(1) - where) + "/" + y.ofProcess(1, 4), "1/0/0");
    Checks.ticks(y, 1);
    Checks.due("the STATEMENT then", y.cell(1, 8), "2");
    // what a handler tells of itself
    Pagekernel z = Checks.begun("I ( b ) { on ( 1 , 0 ) ; a = a + 1 ; } F ( ) { on ( 1 , 3 ) ; while ( 1 ) ; }", 2);
    z.send(1, 1);
    z.run(9);
    Checks.due("once", z.cell(1, 8) + z.handler(1, 1), "10");
    z.send(1, 1);
    z.run(9);
    Checks.due("without a handler then", z.ofProcess(1, 7), 101);
    String[] ends = {"exit ( 7 ) ;", "a = 1 / 0 ;", "kill ( 1 , 3 ) ; ;"};
    int[] codes = {7, 202, 103};
    for (int i = 0; i < ends.length; i++) {
      Pagekernel w = Checks.begun("I ( b ) { " + ends[i] + " } F ( ) { on ( 1 , 3 ) ; while ( 1 ) ; }", 2);
      w.send(1, 1);
      w.run(9);
      Checks.due("in a handler: " + ends[i], w.ofProcess(1, 7) + "/" + w.ofProcess(1, 1), codes[i] + "/2");
    }
  }

  private static void handlersAndChildren() {
    Checks.sentence("Otherwise a child begins: it has all that its parent has (the PROGRAM as its parent has it, MEMORY, BREAK, FRAMES, DESCRIPTORS, handlers, what is HELD), but no signals;");
    Pagekernel x = Checks.begun("G ( a ) { a = fork ( ) ; return a ; } I ( b ) { b = G ( b ) ; c = b ; } F ( ) { on ( 1 , 3 ) ; while ( 1 ) ; }", 2);
    int where = x.where(1);
    x.send(1, 1);
    Checks.ticks(x, 1);
    x.send(1, 2);
    x.send(1, 1);
    Checks.ticks(x, 2);
    Checks.due("two PROCESSES", Checks.states(x) + "/" + x.ofProcess(1, 4) + x.ofProcess(2, 4) + "/" + x.ofProcess(1, 3) + x.ofProcess(2, 3) + "/" + x.handler(2, 1), "11/11/30/3");
    x.send(2, 1);
    for (int i = 0; i < 20 && (x.ofProcess(2, 4) == 1 || x.ofProcess(1, 4) == 1) && x.ofProcess(2, 1) > 1; i++) {
      x.step();
    }
    Checks.due("the child has returned from its handler", x.ofProcess(2, 1) + "/" + x.ofProcess(2, 4) + "/" + x.where(2) + "/" + x.cell(2, 10), "1/0/" + where + "/0");
    x.run(3);
    Checks.due("each takes its own ones", x.ofProcess(2, 3), 0);
    Checks.sentence("Otherwise the PROCESS has that PROGRAM, all cells 0, BREAK 32, one FRAME of F, no handlers, nothing HELD; DESCRIPTORS and signals stay; it begins with F.");
    Pagekernel y = Checks.begun("I ( b ) { ; exec ( 0 ) ; } F ( ) { on ( 1 , 3 ) ; on ( 2 , 3 ) ; while ( 1 ) ; }", 3);
    y.send(1, 1);
    Checks.ticks(y, 1);
    y.send(1, 2);
    Checks.ticks(y, 1);
    Checks.due("HELD", y.ofProcess(1, 4) * 10 + y.ofProcess(1, 3), 12);
    Checks.ticks(y, 1);
    Checks.due("not HELD then", y.ofProcess(1, 4) * 10 + y.ofProcess(1, 3), 2);
    Checks.ticks(y, 1);
    Checks.due("it is taken, without a handler", y.ofProcess(1, 7) * 10 + y.ofProcess(1, 6), 1027);
    Pagekernel z = new Pagekernel();
    Checks.write(z, 0, "F ( ) { pipe ( x ) ; open ( 1 , 1 ) ; open ( 1 , 2 ) ; open ( 1 , 3 ) ; open ( 1 , 0 ) ; exec ( 1 ) ; }");
    Checks.write(z, 1, "F ( ) { get ( y ) ; }");
    z.start(0);
    z.run(60);
    Checks.due("all six DESCRIPTORS", descriptors(z, 1) + z.ofProcess(1, 9) + z.ofProcess(1, 5), "r0 w0 f1@0:1 f1@0:2 f1@0:3 f1@0:0 61");
  }

  private static void signalledAsAChildEnds() {
    Checks.sentence("with a signal that is to be taken it tells -1 (the signal is not taken by that), otherwise it is done; and it GOES ON.");
    Pagekernel x = Checks.begun("I ( b ) { } F ( ) { on ( 1 , 3 ) ; d = fork ( ) ; if ( ! d ) { get ( y ) ; exit ( 6 ) ; } a = wait ( & c ) ; e = wait ( & c ) ; get ( y ) ; }", 0);
    x.run(60);
    Checks.due("both WAIT", Checks.states(x), "22");
    x.give(1);
    Checks.ticks(x, 1);
    x.send(1, 1);
    Checks.ticks(x, 1);
    Checks.due("the child is ENDED", Checks.states(x) + "/" + x.can(1), "23/true");
    Checks.ticks(x, 1);
    Checks.due("-1, and it is not waited for", x.cell(1, 8) + "/" + x.cell(1, 10) + "/" + Checks.states(x) + "/" + x.ofProcess(1, 3), "-1/0/13/1");
    x.run(60);
    Checks.due("by the next one", x.cell(1, 12) + "/" + x.cell(1, 10) + "/" + Checks.states(x), "2/6/24");
    // so of a PIPE with a cell, and of one with room
    Pagekernel y = Checks.begun("I ( b ) { } F ( ) { on ( 2 , 3 ) ; pipe ( x ) ; d = fork ( ) ; if ( ! d ) { get ( y ) ; write ( 1 , 5 ) ; get ( y ) ; } a = read ( 0 , & c ) ; e = read ( 0 , & c ) ; get ( y ) ; }", 0);
    y.run(60);
    y.give(1);
    Checks.ticks(y, 2);
    Checks.due("a cell is there", y.inPipe(0) + "/" + y.can(1) + "/" + y.state(1), "5/true/2");
    y.send(1, 2);
    for (int i = 0; i < 9 && y.state(1) == 2; i++) {
      y.step();
    }
    Checks.due("-1, and it is there still", y.cell(1, 8) + "/" + y.cell(1, 10) + "/" + y.inPipe(0), "-1/0/5");
    y.run(60);
    Checks.due("by the next one", y.cell(1, 12) + "/" + y.cell(1, 10) + "/" + y.inPipe(0), "1/5/");
    Pagekernel z = Checks.begun("I ( b ) { } F ( ) { on ( 2 , 3 ) ; pipe ( x ) ; d = fork ( ) ; if ( ! d ) { get ( y ) ; read ( 0 , & c ) ; get ( y ) ; } while ( b < 4 ) { write ( 1 , b ) ; b = b + 1 ; } a = write ( 1 , 9 ) ; "
        + "e = write ( 1 , 8 ) ; get ( y ) ; }", 0);
    z.run(60);
    Checks.due("it WAITS", z.waitsIn(1), Checks.token("write"));
    z.give(1);
    Checks.ticks(z, 2);
    Checks.due("there is room", z.inPipe(0) + "/" + z.can(1), "1 2 3/true");
    z.send(1, 2);
    for (int i = 0; i < 9 && z.state(1) == 2; i++) {
      z.step();
    }
    Checks.due("-1, and nothing is written", z.cell(1, 8) + "/" + z.inPipe(0), "-1/1 2 3");
    z.run(60);
    Checks.due("by the next one", z.cell(1, 12) + "/" + z.inPipe(0), "1/1 2 3 8");
  }

  // ---- several that WAIT

  private static void severalWait() {
    Checks.sentence("It CAN GO ON if it is READY, or WAITING and either a signal is to be taken, or its CALL would not WAIT now.");
    Pagekernel x = Checks.begun("F ( ) { pipe ( x ) ; fork ( ) ; fork ( ) ; a = pid ( ) ; if ( a == 1 ) { while ( 1 ) { get ( & b ) ; write ( 1 , b ) ; } } while ( 1 ) { read ( 0 , & b ) ; put ( b ) ; } }", 0);
    x.run(200);
    Checks.due("all WAIT", Checks.states(x) + "/" + x.house(1), "2222/0");
    x.give(7);
    Checks.ticks(x, 2);
    Checks.due("each of three CAN, and the writer", x.inPipe(0) + "/" + x.house(1) + "/" + x.can(2) + x.can(3) + x.can(4), "7/4/truetruetrue");
    x.run(200);
    Checks.due("one of them had it", x.house(10) + "/" + x.out(0).endsWith(":7") + "/" + x.house(1), "1/true/0");
    // INPUTS: each takes one, by turns
    Pagekernel y = Checks.with("F ( ) { while ( 1 ) { get ( & a ) ; put ( a ) ; } }");
    y.quantum(2);
    for (int i = 0; i < 3; i++) {
      y.start(0);
    }
    y.run(20);
    y.give(5);
    y.give(6);
    Checks.due("all three CAN", y.house(1), 3);
    y.run(200);
    Checks.due("by turns", y.out(0).replaceAll("[0-9]+:", "") + "/" + y.inputs() + "/" + y.house(1), "5 6//0");
    // a writer that WAITS is told -1 as the last reader ends
    for (String end : new String[] {"exit ( 1 ) ;", "close ( 0 ) ; get ( y ) ;", "a = 1 / 0 ;", "kill ( 2 , 3 ) ; ;"}) {
      Pagekernel z = Checks.begun("F ( ) { pipe ( x ) ; d = fork ( ) ; if ( ! d ) { get ( y ) ; " + end + " } close ( 0 ) ; while ( b < 4 ) { write ( 1 , b ) ; b = b + 1 ; } c = write ( 1 , 9 ) ; get ( y ) ; get ( y ) ; }", 0);
      z.run(90);
      Checks.due("it WAITS", z.waitsIn(1) + "/" + z.can(1), Checks.token("write") + "/false");
      z.give(0);
      z.run(20);
      Checks.due("-1 by " + end, z.cell(1, 10) + "/" + z.inPipe(0), "-1/0 1 2 3");
      // and a reader 0 as the last writer ends
      Pagekernel w = Checks.begun("F ( ) { pipe ( x ) ; d = fork ( ) ; if ( ! d ) { get ( y ) ; close ( 1 ) ; " + end + " } close ( 1 ) ; b = 9 ; c = read ( 0 , & b ) ; get ( y ) ; get ( y ) ; }", 0);
      w.run(90);
      Checks.due("it WAITS", w.waitsIn(1) + "/" + w.can(1), Checks.token("read") + "/false");
      w.give(0);
      w.run(20);
      Checks.due("0 by " + end, w.cell(1, 10) + "/" + w.cell(1, 9), "0/9");
    }
    Checks.sentence("An ADDRESS that is told to one is looked at ahead of all else: TRAP 1, if it is not OWN.");
    String four = "pipe ( x ) ; close ( 0 ) ; pipe ( x ) ; close ( 0 ) ; pipe ( x ) ; close ( 0 ) ; pipe ( x ) ; close ( 0 ) ;";
    for (String address : new String[] {"7", "y + 7", "y + 8", "- 1"}) {
      Pagekernel v = Checks.begun("F ( ) { " + four + " pipe ( " + address + " ) ; }", 0);
      v.run(90);
      Checks.due("with four PIPES", v.ofProcess(1, 7), 201);
    }
    Pagekernel u = Checks.begun("F ( ) { " + four + " a = pipe ( y + 6 ) ; get ( y ) ; }", 0);
    u.run(90);
    Checks.due("an OWN one", u.cell(1, 8) + u.house(2), "-14");
  }

  // ---- the machine

  /** LEVELS, pages and what is pressed change from TICK to TICK: nothing of that is seen. */
  private static void innerThingsChange() {
    Checks.sentence("FRAMES, LEVELS and what is pressed are inner things: how many pages (of 8 cells) the machine's own memory has; how well PROGRAMS that begin from then on are compiled; that all pages of a PROCESS "
        + "go out to the disk at once. (These FRAMES are not those of section 2.)");
    String text = "G ( a ) { if ( a < 2 || 0 ) return 1 + 1 * 0 ; a = G ( a - 1 ) ; return a + a ; } F ( ) { if ( 1 && ! 0 ) { b = fork ( ) ; c = G ( 4 - 1 ) ; x [ 8 - 1 ] = c ; while ( 1 ) { put ( c + b ) ; d = d + 1 ; if ( d > 2 ) exec ( 0 ) ; "
        + "if ( d == 2 && ! b ) exit ( 1 ) ; } } }";
    long[] due = new long[95];
    for (int way = 0; way < 3; way++) {
      Pagekernel x = Checks.begun(text, 0);
      for (int i = 0; i < due.length; i++) {
        if (way > 0) {
          x.level((i / 3 + way) % 3);
        }
        if (way == 2) {
          x.press(1 + i % 4);
          x.frames(8 + i % 33);
        }
        x.step();
        if (i % 2 == 0) {
          long digest = x.digest();
          due[i] = way == 0 ? digest : due[i];
          Checks.due("digest() behind " + (i + 1) + " TICKS", digest, due[i]);
        }
      }
    }
  }

  private static void turns() {
    Checks.sentence("from the one behind the SLOT of the last TICK on, around, up to that one again (from 0 on, if TURN is NONE); USED starts anew.");
    for (int last = 0; last < 6; last++) {
      Pagekernel x = Checks.with(LOOP);
      x.quantum(1);
      for (int i = 0; i < 6; i++) {
        x.start(0);
      }
      Checks.ticks(x, 7 + last);
      Checks.due("the SLOT of the last TICK", x.ofProcess(x.turn(0), 11), last);
      if (last % 2 == 0) {
        x.crash(0, false);
      } else {
        x.halted(last);
      }
      for (int i = 0; i < 6; i++) {
        x.start(0);
      }
      Checks.due("from 0 on behind a CRASH", x.turn(2) * 10 + x.step(), 77);
      Checks.due("its SLOT", x.ofProcess(7, 11) + x.turn(1), 1);
    }
    Checks.sentence("USED: how many TICKS it had since its turn began.");
    Pagekernel y = Checks.with(LOOP);
    y.quantum(10);
    y.start(0);
    y.start(0);
    Checks.ticks(y, 7);
    for (int quantum = 1; quantum <= 10; quantum++) {
      y.quantum(quantum);
      Checks.due("USED stays", y.turn(1), 7);
      Checks.due("whose TICK would be next with QUANTUM " + quantum, y.turn(2), quantum <= 7 ? 2 : 1);
    }
    // another one in the SLOT of the last TICK has a turn of its own
    Pagekernel w = Checks.with(LOOP);
    w.start(0);
    w.send(1, 3);
    w.step();
    Checks.due("TURN is GONE", w.turn(0) + "/" + w.turn(1) + "/" + w.start(0) + "/" + w.ofProcess(2, 11), "1/1/2/0");
    Checks.due("USED of the new one", w.step() + "/" + w.turn(0) + "/" + w.turn(1), "2/2/1");
    Checks.due("its turn", w.step() + w.step() + w.step() + "/" + w.turn(1), "6/1");
    Checks.sentence("Returns how often one knocked, with this.");
    Pagekernel z = new Pagekernel();
    for (int i = 1; i <= 500; i++) {
      Checks.due("knock()", z.knock(), i);
      if (i == 250) {
        z.crash(0, false);
        z.halted(0);
      }
    }
    Checks.due("house(12)", z.house(12), 500);
  }

  /** TEXTS, LEVEL, QUANTUM and how many pages there are: nothing is told of a CRASH that changes them. */
  private static void leftByACrash() {
    Checks.sentence("all PROCESSES are GONE (as if each ended, with CODE 0 and WHY 6, but of one that is ENDED or GONE ahead of it these stay; parents are 0), with PIPES, OPENINGS and INPUTS; TURN is NONE; OUTS stay; nothing is "
        + "PENDING; FILES are as is told.");
    for (int way = 0; way < 2; way++) {
      Pagekernel x = Checks.begun(LOOP, 2);
      x.level(2);
      x.frames(33);
      x.quantum(7);
      int files = way == 0 ? x.crash(0, true) : x.halted(3);
      Checks.due("FILES", files, 0);
      Checks.due("what stays", x.level(0) + "/" + x.frames(12) + "/" + x.quantum(3) + "/" + x.house(6) + "/" + x.house(8), "2/33/7/2/1");
      Checks.due("crashes", x.house(11), 1);
      Checks.due("the next PID", x.start(0), 2);
    }
    Pagekernel y = new Pagekernel();
    for (int program = 0; program < 4; program++) {
      Checks.write(y, program, "F ( ) { put ( " + program + " ) ; exec ( " + (program + 1) + " ) ; }");
    }
    y.start(0);
    y.run(200);
    Checks.due("one behind the other", y.out(0) + "/" + y.ofProcess(1, 5), "1:0 1:1 1:2 1:3/3");
    y.crash(0, false);
    for (int program = 0; program < 4; program++) {
      Checks.due("a CRASH is nothing to TEXTS", y.text(program), "F ( ) { put ( " + program + " ) ; exec ( " + (program + 1) + " ) ; }");
      Checks.due("kind", y.kind(program) * 10 + y.error(program), -1);
    }
  }

  private static Pagekernel pending(int acts) {
    Pagekernel x = new Pagekernel();
    x.store(1, 0);
    x.sync();
    for (int i = 0; i < acts; i++) {
      int name = i % 3;
      if (i % 5 == 4) {
        x.remove(name);
      } else if (x.size(name) >= 0) {
        x.store(name, i * i - 50);
      } else {
        x.store(1, i);
      }
    }
    return x;
  }

  private static void longPasts() {
    Checks.sentence("would() of 0 and of all PENDING;");
    for (int acts = 0; acts <= 19; acts++) {
      int many = acts;
      Checks.due("digest() with " + acts, pending(acts).digest(), Checks.digestOf(() -> pending(many)));
    }
    Checks.due("so many are PENDING", pending(19).house(5) > 15, true);
    Checks.sentence("A CRASH: FILES are what they were behind the first n PENDING ACTS (n 0: behind the last SYNC).");
    String[] texts = {"F ( ) { while ( 1 ) { b = open ( a % 3 , 1 + a % 3 ) ; write ( b , a ) ; write ( b , - a ) ; unlink ( ( a + 1 ) % 3 ) ; if ( a % 2 ) close ( b ) ; if ( a % 7 == 6 ) close ( 0 ) ; a = a + 1 ; } }",
      "F ( ) { while ( 1 ) { b = open ( a % 8 , 1 ) ; unlink ( a % 8 ) ; write ( b , a ) ; open ( a % 8 , 3 ) ; write ( b + 1 , a ) ; close ( b ) ; open ( 0 , 2 ) ; write ( b , 5 ) ; close ( b ) ; close ( b + 1 ) ; a = a + 1 ; } }",
      "F ( ) { fork ( ) ; fork ( ) ; while ( 1 ) { b = open ( a % 2 , a % 4 ) ; write ( b , a ) ; write ( b , a ) ; if ( a % 5 ) close ( b ) ; else unlink ( 1 ) ; a = a + 1 ; } }"};
    for (String text : texts) {
      Pagekernel x = Checks.begun(text, 0);
      List<String> behind = new ArrayList<>(List.of(""));
      for (int i = 0; i < 140; i++) {
        x.step();
        int acts = x.house(5);
        String now = x.would(acts);
        if (acts == behind.size()) {
          behind.add(now);
        } else if (acts < behind.size() - 1) {
          Checks.due("as there are 20", behind.size() - 1 + acts, 19);
          behind.clear();
          behind.add(now);
        } else {
          Checks.due("no ACT, no other FILES", now, behind.get(acts));
        }
        if (i % 40 >= 37) {
          for (int n = 0; n < behind.size(); n++) {
            int last = i;
            int many = n;
            Pagekernel twin = Checks.begun(text, 0);
            twin.run(last + 1);
            Checks.due("would(" + n + ") behind " + i + " of " + text, twin.would(n), behind.get(n));
            twin.crash(many, many % 2 == 0);
            Checks.due("behind a CRASH", twin.would(0), behind.get(n));
          }
        }
      }
    }
  }

  /** The last PIDS are told of as the first ones are. */
  private static void lastPids() {
    Checks.sentence("with a PID (1, 2, 3, ... as they begin; at most 60 in all),");
    Pagekernel x = Checks.with("F ( ) { }");
    Checks.write(x, 1, "F ( ) { a = fork ( ) ; if ( ! a ) get ( y ) ; b = fork ( ) ; if ( ! b ) exit ( 5 ) ; c = fork ( ) ; put ( c ) ; while ( 1 ) d = wait ( & e ) ; }");
    for (int pid = 1; pid <= 57; pid++) {
      x.start(0);
    }
    Checks.due("start", x.start(1), 58);
    Checks.due("whose TICK would be next", x.turn(2), 58);
    for (int i = 0; i < 40 && x.state(60) == 0; i++) {
      x.step();
    }
    Checks.due("a family", x.children(58) + "/" + x.ofProcess(59, 0) + "/" + x.ofProcess(60, 0) + "/" + x.house(8), "59 60/58/58/60");
    x.run(60);
    Checks.due("no PID is left", x.out(0), "58:-1");
    Checks.due("the ENDED one is waited for", x.cell(58, 11) + "/" + x.cell(58, 12) + "/" + x.state(58) + x.state(59) + x.state(60) + "/" + x.waitsIn(58), "60/5/224/" + Checks.token("wait"));
    Checks.due("told of 59", x.ofProcess(59, 11) + "/" + x.where(59) + "/" + x.can(59) + "/" + x.press(59) + "/" + x.waitsIn(59), "1/15/false/1/" + Checks.token("get"));
    x.give(4);
    Checks.due("with an INPUT", x.can(59) + "/" + x.turn(2), "true/59");
    Checks.due("its TICK", x.step() + "/" + x.cell(59, 24) + "/" + x.turn(0), "59/4/59");
    x.send(58, 3);
    for (int i = 0; i < 40 && x.state(58) != 4; i++) {
      x.step();
    }
    Checks.due("nobody's then", x.ofProcess(59, 0) + "/" + x.ofProcess(60, 0) + "/" + x.children(58), "0/0/");
    for (int ended = 0; ended <= 2; ended++) {
      int last = ended;
      Checks.Maker maker = () -> {
        Pagekernel y = Checks.with("F ( ) { }");
        Checks.write(y, 1, "F ( ) { a = fork ( ) ; if ( a ) { while ( 1 ) ; } b = fork ( ) ; if ( b ) get ( y ) ; get ( y ) ; }");
        for (int pid = 1; pid <= 57; pid++) {
          y.start(0);
        }
        y.start(1);
        y.run(40);
        y.send(58 + last, 3);
        y.run(20);
        return y;
      };
      Checks.due("digest() with the last PIDS", maker.make().digest(), Checks.digestOf(maker));
    }
    // two orphans: none is waited for by another one
    Pagekernel z = Checks.with("F ( ) { }");
    Checks.write(z, 1, "F ( ) { get ( y ) ; }");
    Checks.write(z, 2, "F ( ) { a = fork ( ) ; if ( ! a ) while ( 1 ) ; a = wait ( 0 ) ; b = wait ( 0 ) ; get ( y ) ; }");
    for (int pid = 1; pid <= 56; pid++) {
      z.start(0);
    }
    z.start(1);
    z.start(1);
    z.start(2);
    z.run(20);
    Checks.due("the last PID comes next", z.turn(2) + "/" + z.step(), "60/60");
    z.send(60, 3);
    z.run(20);
    Checks.due("its own child, and no other one", z.cell(59, 8) + "/" + z.cell(59, 9) + "/" + z.state(57) + z.state(58) + z.state(59) + z.state(60), "60/-1/2224");
  }

  private static void farValues() {
    Checks.sentence("the FRAME is gone, the value goes to the NAME of the CALL, if there is one, and the PROCESS GOES ON behind that (also at once, in the same TICK).");
    for (int level = 0; level <= 2; level++) {
      for (int deep = 1; deep <= 11; deep++) {
        Pagekernel x = Checks.with("G ( a , h ) { int d ; if ( a > 1 ) d = G ( a - 1 , h * 19 ) ; else d = h ; put ( d ) ; return - d - a ; } F ( ) { int d ; d = G ( " + deep + " , 19 ) ; put ( d ) ; }");
        x.level(level);
        x.start(0);
        x.run(200);
        int value = 19;
        for (int i = 1; i < deep; i++) {
          value *= 19;
        }
        StringBuilder due = new StringBuilder("1:" + value);
        for (int a = 1; a <= deep; a++) {
          value = -value - a;
          due.append(" 1:").append(value);
        }
        Checks.due(deep + " FRAMES deep", x.out(0), due.toString());
      }
    }
    Checks.sentence("Returns the place in its TEXT of the first TOKEN of the STATEMENT that begins next, or in which it WAITS;");
    Pagekernel y = Checks.begun("F ( ) { " + Checks.times(";", 150) + "get ( y ) ; }", 0);
    for (int place = 4; place <= 154; place++) {
      Checks.due("where", y.where(1), place);
      y.step();
    }
    Checks.due("WAITING at the end of a full TEXT", y.length(0) + "/" + y.where(1) + "/" + y.state(1), "160/154/2");
  }

  /** Each SERVICE that stores does so at each ADDRESS that is OWN, and nowhere else. */
  private static void storedEverywhere() {
    Checks.sentence("An ADDRESS that is told to one is looked at ahead of all else: TRAP 1, if it is not OWN.");
    String[] calls = {"get ( b )", "wait ( b )", "read ( 0 , b )", "read ( 2 , b )", "pipe ( b )"};
    for (String call : calls) {
      for (int address = 7; address <= 96; address++) {
        Pagekernel x = Checks.begun("F ( ) { grow ( 8 * 8 ) ; pipe ( x ) ; write ( 1 , 19 * 4 ) ; open ( 5 , 0 ) ; a = fork ( ) ; if ( ! a ) exit ( 19 * 4 ) ; pause ( ) ; get ( & b ) ; c = 9 ; c = " + call
            + " ; get ( y ) ; }", 0);
        x.store(5, 76);
        x.run(60);
        x.give(address);
        x.give(76);
        boolean isPipe = call.startsWith("pipe");
        boolean isOwn = address >= 8 && address < (isPipe ? 95 : 96);
        Pagekernel twin = Checks.begun(x.text(0), 0);
        twin.store(5, 76);
        twin.run(60);
        twin.give(address);
        twin.run(1);
        x.run(isOwn ? 3 : 60);
        Checks.due("CODE of " + call + " at " + address, x.ofProcess(1, 7), isOwn ? 0 : 201);
        for (int other = 8; isOwn && other < 96; other++) {
          String was = other == 9 ? "" + address : twin.cell(1, other);
          String due = other == address ? isPipe ? "3" : "76" : isPipe && other == address + 1 ? "4" : was;
          String told = isPipe ? "0" : call.startsWith("wait") ? "2" : "1";
          // c is told last
          Checks.due("cell " + other + " behind " + call + " at " + address, x.cell(1, other), other == 10 ? told : due);
        }
      }
    }
  }

  private static void zeroesStored() {
    Checks.sentence("With an ENDED child: that with the smallest PID is GONE, its CODE is stored at a (unless a is 0); its PID.");
    String[] calls = {"get ( b )", "wait ( b )", "read ( 0 , b )", "read ( 2 , b )", "pipe ( b )"};
    for (String call : calls) {
      for (String cell : new String[] {"12", "y", "y + 8", "x + 19 * 4"}) {
        Pagekernel x = Checks.begun("F ( ) { grow ( 8 * 8 ) ; pipe ( x ) ; write ( 1 , 0 ) ; open ( 5 , 0 ) ; a = fork ( ) ; if ( ! a ) exit ( 0 ) ; pause ( ) ; close ( 5 ) ; b = " + cell + " ; * b = 9 ; "
            + (call.startsWith("pipe") ? "close ( 0 ) ; " : "") + "c = " + call + " ; d = * b ; get ( y ) ; }", 0);
        x.store(5, 0);
        if (call.startsWith("get")) {
          x.give(0);
        }
        x.run(60);
        Checks.due("0 is stored by " + call, x.cell(1, 11), "0");
      }
    }
  }

  private static String descriptors(Pagekernel x, int pid) {
    StringBuilder all = new StringBuilder();
    for (int d = 0; d < 6; d++) {
      all.append(x.descriptor(pid, d)).append(' ');
    }
    return all.toString();
  }

  private static void forkedPositions() {
    Checks.sentence("A forked PROCESS has DESCRIPTORS that lead to the same OPENINGS.");
    Pagekernel x = Checks.begun("F ( ) { open ( 1 , 1 ) ; while ( a < 6 ) { a = a + 1 ; b = open ( a , 1 + a % 2 ) ; while ( c < a ) { write ( b , a ) ; c = c + 1 ; } c = 0 ; } close ( 3 ) ; open ( 1 , 0 ) ; read ( 3 , & d ) ; fork ( ) ; "
        + "a = pid ( ) ; if ( a == 2 ) while ( c < 5 ) { write ( 5 , 9 ) ; c = c + 1 ; } get ( y ) ; }", 0);
    int fork = x.length(0) - Checks.many("fork ( ) ; a = pid ( ) ; if ( a == 2 ) while ( c < 5 ) { write ( 5 , 9 ) ; c = c + 1 ; } get ( y ) ; }");
    for (int i = 0; i < 150 && x.where(1) != fork; i++) {
      x.step();
    }
    String due = "f1@0:1 f1@1:2 f2@2:1 f1@1:0 f4@4:1 f5@5:2 ";
    Checks.due("ahead of fork", descriptors(x, 1), due);
    x.step();
    Checks.due("behind fork", descriptors(x, 1) + "/ " + descriptors(x, 2), due + "/ " + due);
    x.run(60);
    Checks.due("one position for both", x.descriptor(1, 5) + x.descriptor(2, 5), "f5@10:2f5@10:2");
  }

  /** A SYNC that is halted at each block, with each BODY in use and each cell of each FILE about to change. */
  private static void haltedWithAll() {
    Checks.sentence("A SYNC that is halted by a CRASH (it counts as one), as it had written all ACTS and then k more blocks of the disk: FILES stay what they are.");
    for (int way = 0; way < 200; way++) {
      int k = way / 2;
      Pagekernel x = Checks.begun("F ( ) { while ( a < 4 ) { open ( a , 1 ) ; unlink ( a ) ; a = a + 1 ; } get ( & b ) ; open ( b , 1 ) ; while ( c < 16 ) { write ( 4 , - c ) ; c = c + 1 ; } get ( y ) ; }", 0);
      x.run(60);
      for (int i = 0; i < 16 * 8; i++) {
        x.store(i / 16, 1000 + i);
      }
      Checks.due("BODIES", x.house(4), 12);
      x.sync();
      x.give(way % 2 == 0 ? 7 : k % 8);
      x.run(60);
      Checks.due("PENDING", x.house(5), 16);
      String now = x.would(16);
      Checks.due("halted(" + k + ")", x.halted(k), 8);
      Checks.due("FILES stay behind " + k, x.would(0), now);
      x.crash(0, false);
      Checks.due("and behind the next CRASH", x.would(0), now);
    }
  }

  /** What is open or closed as ACTS are SYNCED. */
  private static void openAsActsAreSynced() {
    Checks.sentence("That a FILE is made, and that one with cells is emptied (all positions in it become 0), are ACTS.");
    for (int before = 0; before <= 19; before++) {
      Pagekernel x = Checks.begun("F ( ) { open ( 1 , 1 ) ; write ( 0 , 4 ) ; write ( 0 , 5 ) ; open ( 1 , 0 ) ; read ( 1 , & a ) ; open ( 1 , 3 ) ; write ( 2 , 6 ) ; close ( 2 ) ; get ( y ) ; open ( 1 , 2 ) ; get ( y ) ; }", 9);
      x.store(2, 0);
      x.store(3, 0);
      x.sync();
      for (int i = 0; x.house(5) < before; i++) {
        x.store(2 + i % 2, i);
      }
      Checks.due("positions", x.descriptor(1, 0) + " " + x.descriptor(1, 1) + " " + x.inFile(1), "f1@2:1 f1@1:0 4 5 6");
      x.give(0);
      x.run(9);
      Checks.due("positions with " + before + " ACTS ahead of it", x.descriptor(1, 0) + " " + x.descriptor(1, 1) + " " + x.descriptor(1, 2) + " " + x.inFile(1) + x.house(5), "f1@0:1 f1@0:0 f1@0:2 " + (before + 1) % 20);
      Pagekernel y = Checks.begun("F ( ) { open ( 1 , 1 ) ; write ( 0 , 4 ) ; open ( 2 , 1 ) ; get ( y ) ; close ( 0 ) ; close ( 1 ) ; get ( y ) ; }", 4);
      y.store(2, 3);
      y.store(3, 0);
      y.store(4, 0);
      y.sync();
      for (int i = 0; y.house(5) < before; i++) {
        y.store(3 + i % 2, i);
      }
      String now = y.would(before);
      y.give(0);
      y.run(9);
      Checks.due("to close is no ACT and changes no FILE", y.would(before) + y.house(5) + y.house(13) + y.inFile(1) + y.inFile(2), now + before + "043");
    }
  }

  public static void main(String[] arguments) {
    lastPids();
    farValues();
    storedEverywhere();
    zeroesStored();
    forkedPositions();
    haltedWithAll();
    openAsActsAreSynced();
    eachProgram();
    deepE();
    farCodes();
    killsInAFamily();
    nothingIsToldByAHandler();
    signalsMeet();
    handlersAndChildren();
    signalledAsAChildEnds();
    severalWait();
    innerThingsChange();
    turns();
    leftByACrash();
    longPasts();
    Checks.end();
  }
}
