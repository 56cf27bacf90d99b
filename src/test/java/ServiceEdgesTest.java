/** Sections 4 and 5 of the document at their edges: each SERVICE, each -1 that it tells, when it WAITS, and signals. */
public final class ServiceEdgesTest {
  private static final int LEAST = Integer.MIN_VALUE;
  private static final int MOST = Integer.MAX_VALUE;

  /** A PROCESS that does a setup, and then a CALL with each two INPUTS a and b, and puts what is told. */
  private static Pagekernel asked(String setup, String call) {
    Pagekernel x = Checks.begun("I ( a ) { } H ( ) { } F ( ) { " + setup + " while ( 1 ) { get ( & a ) ; get ( & b ) ; c = " + call + " ; put ( c ) ; } }", 0);
    x.run(200);
    return x;
  }

  private static void asks(Pagekernel x, String what, int a, int b, int due) {
    int told = x.house(10);
    x.give(a);
    x.give(b);
    x.run(200);
    Checks.due(what + " with " + a + ", " + b, x.out(told), "1:" + due);
  }

  private static void eachTells(String setup, String call, int due, int[] first, int[] second) {
    Pagekernel x = asked(setup, call);
    for (int a : first) {
      for (int b : second) {
        asks(x, call, a, b, due);
      }
    }
    Checks.due("isSound() behind " + call, x.isSound(), true);
  }

  private static String ended(String text) {
    Pagekernel x = Checks.begun(text, 0);
    x.run(200);
    return x.ofProcess(1, 7) + "/" + x.ofProcess(1, 8) + "/" + x.state(1);
  }

  // ---- what holds for all of them

  private static void addressesFirst() {
    Checks.sentence("An ADDRESS that is told to one is looked at ahead of all else: TRAP 1, if it is not OWN.");
    Checks.due("wait without children", ended("F ( ) { wait ( 7 ) ; }"), "201/2/4");
    Checks.due("wait that would WAIT", ended("F ( ) { a = fork ( ) ; if ( a == 0 ) while ( 1 ) ; wait ( 7 ) ; }"), "201/2/4");
    Checks.due("pipe without free DESCRIPTORS", ended("F ( ) { " + Checks.times("open ( 1 , 1 ) ;", 6) + "pipe ( 7 ) ; }"), "201/2/4");
    Checks.due("pipe, the second cell", ended("F ( ) { " + Checks.times("open ( 1 , 1 ) ;", 6) + "pipe ( y + 7 ) ; }"), "201/2/4");
    Checks.due("read of nothing", ended("F ( ) { read ( 0 , 7 ) ; }"), "201/2/4");
    Checks.due("read that would WAIT", ended("F ( ) { pipe ( x ) ; read ( 0 , 7 ) ; }"), "201/2/4");
    Checks.due("read at the end", ended("F ( ) { open ( 1 , 1 ) ; open ( 1 , 0 ) ; read ( 1 , 7 ) ; }"), "201/2/4");
    Checks.due("get without INPUTS", ended("F ( ) { get ( 7 ) ; }"), "201/2/4");
    Checks.due("a cell that was given back", ended("F ( ) { grow ( 1 ) ; * ( y + 8 ) = 1 ; grow ( - 1 ) ; get ( y + 8 ) ; }"), "201/2/4");
    Checks.due("none of these", ended("F ( ) { close ( 7 ) ; unlink ( 7 ) ; kill ( 7 , 7 ) ; exec ( 7 ) ; on ( 7 , 7 ) ; write ( 7 , 7 ) ; open ( 7 , 7 ) ; grow ( - 7 ) ; }"), "0/1/4");
    Checks.sentence("What a CALL tells goes to its NAME, if there is one, behind all that it does.");
    Checks.due("pipe", Checks.outs("F ( ) { a = pipe ( & a ) ; put ( a ) ; put ( b ) ; b = pipe ( & a ) ; put ( a ) ; put ( b ) ; }"), "1:0 1:1 1:2 1:0");
    Checks.due("wait", Checks.outs("F ( ) { a = fork ( ) ; if ( a == 0 ) exit ( 5 ) ; a = wait ( & a ) ; put ( a ) ; }"), "1:2");
    Checks.due("read", Checks.outs("F ( ) { open ( 1 , 1 ) ; write ( 0 , 9 ) ; open ( 1 , 0 ) ; a = read ( 1 , & a ) ; put ( a ) ; }"), "1:1");
    Checks.due("to a LOCAL NAME", Checks.outs("F ( ) { int a ; a = put ( 6 ) ; put ( a ) ; put ( * 8 ) ; }"), "1:6 1:6 1:0");
    Pagekernel x = Checks.begun("F ( ) { a = get ( & a ) ; put ( a ) ; }", 1);
    x.give(9);
    x.run(9);
    Checks.due("get", x.out(0), "1:1");
  }

  private static void openings() {
    Checks.sentence("An OPENING is there as long as a DESCRIPTOR leads to it.");
    Pagekernel x = Checks.begun("F ( ) { pipe ( x ) ; open ( 1 , 1 ) ; a = fork ( ) ; if ( a ) { close ( 0 ) ; close ( 2 ) ; while ( 1 ) ; } get ( y ) ; close ( 0 ) ; get ( y ) ; close ( 2 ) ; get ( y ) ; "
        + "close ( 1 ) ; get ( y ) ; }", 0);
    x.run(60);
    String[] due = {"3/12/1", "2/02/1", "1/02/1", "1/01/1"};
    for (int i = 0; i < due.length; i++) {
      Checks.due("behind " + i + " CALLS of close by the second one", x.house(13) + "/" + x.ofPipe(0, 1) + x.ofPipe(0, 2) + "/" + x.house(2), due[i]);
      x.give(0);
      x.run(20);
    }
    Pagekernel y = Checks.begun("F ( ) { open ( 1 , 1 ) ; fork ( ) ; get ( y ) ; }", 0);
    y.run(60);
    Checks.due("one for both", y.house(13), 1);
    y.send(1, 3);
    y.run(9);
    Checks.due("one still", y.house(13), 1);
    y.send(2, 3);
    y.run(9);
    Checks.due("none", y.house(13), 0);
    Checks.sentence("A forked PROCESS has DESCRIPTORS that lead to the same OPENINGS.");
    Checks.due("one position", Checks.outs("F ( ) { open ( 1 , 1 ) ; a = fork ( ) ; if ( a ) wait ( 0 ) ; write ( 0 , a ) ; open ( 1 , 0 ) ; read ( 1 , & b ) ; read ( 1 , & c ) ; put ( b ) ; put ( c ) ; }"),
        "2:0 2:0 1:0 1:2");
  }

  // ---- PROCESSES

  private static void forks() {
    Checks.sentence("fork(): -1 if there are 6 PROCESSES, or 60 PIDS were given.");
    for (int others = 4; others <= 5; others++) {
      Pagekernel x = Checks.with("F ( ) { get ( y ) ; }");
      Checks.write(x, 1, "F ( ) { a = fork ( ) ; put ( a ) ; }");
      for (int i = 0; i < others; i++) {
        x.start(0);
      }
      x.start(1);
      x.run(60);
      Checks.due("with " + others + " others", x.out(0), others == 4 ? "5:6 6:0" : "6:-1");
      Checks.due("PIDS", x.house(8), 6);
    }
    for (int before = 58; before <= 60; before++) {
      Pagekernel x = Checks.with("F ( ) { }");
      Checks.write(x, 1, "F ( ) { a = fork ( ) ; if ( a ) put ( a ) ; }");
      for (int i = 1; i < before; i++) {
        x.start(0);
      }
      x.start(1);
      x.run(60);
      Checks.due("behind " + before + " PIDS", x.out(0), before + ":" + (before == 60 ? -1 : before + 1));
    }
    Checks.sentence("it tells its PID to the parent, 0 to the child; both GO ON, the child first.");
    Pagekernel x = Checks.begun("G ( ) { int b ; b = fork ( ) ; return b ; } F ( ) { open ( 1 , 1 ) ; a = G ( ) ; return a + 5 ; }", 3);
    Checks.due("both rest behind it", x.local(1, 1, 1) + x.local(2, 1, 1) + x.ofProcess(1, 1) + x.ofProcess(2, 1) + "/" + x.where(1) + "/" + x.where(2), "2022/13/13");
    x.run(9);
    Checks.due("CODES", x.ofProcess(1, 7) * 10 + x.ofProcess(2, 7), 75);
    Pagekernel y = Checks.begun("F ( ) { fork ( ) ; }", 1);
    Checks.due("a child that ends in that TICK had none itself", y.ofProcess(2, 6) * 100 + y.ofProcess(2, 7) * 10 + y.ofProcess(2, 8), 1);
    Checks.due("and is GONE as its parent ends", y.state(1) * 10 + y.state(2), 44);
    Checks.due("one TICK", y.house(6), 1);
    Checks.due("children of a parent that stays", childOfOneThatStays(), "3/2");
  }

  private static String childOfOneThatStays() {
    Pagekernel x = Checks.begun("G ( ) { a = fork ( ) ; if ( a ) while ( 1 ) ; return 3 ; } F ( ) { G ( ) ; }", 0);
    x.run(9);
    return x.state(2) + "/" + x.children(1);
  }

  private static void execs() {
    Checks.sentence("exec(p): -1 if p is not 0 to 3, or the TEXT of the PROGRAM p has an ERROR.");
    String[] wrong = {"", "F ( )", "F ( ) { G ( ) ; }", "F ( ) { put ( ) ; }", "F ( ) { int a ; b = & a ; }", "F ( ) { break ; }", "F ( ) { } F ( ) { }", "F ( ) { int a ; int a ; }", "G ( ) { }"};
    for (int kind = 0; kind < wrong.length; kind++) {
      Pagekernel x = asked("grow ( 5 ) ; d = 7 ; on ( 1 , 3 ) ; open ( 1 , 1 ) ;", "exec ( a )");
      Checks.write(x, 3, wrong[kind]);
      for (int p : new int[] {-1, 4, LEAST, MOST, 1, 2, 3}) {
        asks(x, "exec of KIND " + kind, p, 0, -1);
      }
      Checks.due("nothing else", x.ofProcess(1, 2) + "/" + x.ofProcess(1, 5) + "/" + x.cell(1, 11) + "/" + x.handler(1, 1) + "/" + x.descriptor(1, 0), "37/0/7/3/f1@0:1");
    }
    Pagekernel e = Checks.begun("F ( ) { a = fork ( ) ; if ( a == 0 ) exit ( 9 ) ; pause ( ) ; pause ( ) ; b = exec ( 4 ) ; c = exec ( 3 ) ; get ( y ) ; }", 0);
    e.run(60);
    Checks.due("with a child that is ENDED", e.cell(1, 9) + e.cell(1, 10) + e.state(2) + e.children(1), "-1-132");
    Checks.sentence("Otherwise the PROCESS has that PROGRAM, all cells 0, BREAK 32, one FRAME of F, no handlers, nothing HELD; DESCRIPTORS and signals stay; it begins with F.");
    for (int p = 0; p < 4; p++) {
      Pagekernel x = new Pagekernel();
      Checks.write(x, p, "G ( ) { get ( y ) ; } F ( ) { int h ; G ( ) ; }");
      int from = (p + 1) % 4;
      Checks.write(x, from, "I ( a ) { int h ; a = 0 ; h = 8 ; while ( a < 12 * 8 - 8 ) { x [ a - 8 ] = 5 ; a = a + 5 ; } exec ( " + p + " ) ; } F ( ) { grow ( 8 * 8 ) ; on ( 1 , 3 ) ; on ( 2 , 3 ) ; "
          + "a = pid ( ) ; pipe ( x ) ; kill ( a , 1 ) ; ; }");
      x.start(from);
      x.run(7);
      x.send(1, 2);
      while (x.ofProcess(1, 5) == from && x.step() == 1) {
        Checks.due("HELD ahead of it", x.ofProcess(1, 5) != from || x.ofProcess(1, 4) == 1, true);
      }
      Checks.due("PROGRAM, FRAMES, BREAK, HELD", "" + x.ofProcess(1, 5) + x.ofProcess(1, 1) + x.ofProcess(1, 2) + x.ofProcess(1, 4), p + "1320");
      Checks.due("handlers and signals", "" + x.handler(1, 1) + x.handler(1, 2) + x.ofProcess(1, 3), "002");
      Checks.due("DESCRIPTORS", x.descriptor(1, 0) + x.descriptor(1, 1) + x.descriptor(1, 2), "r0w0-");
      for (int address = 8; address < 96; address++) {
        Checks.due("cell " + address, x.cell(1, address), address < 32 ? "0" : "-");
      }
      Checks.due("where, function, local", x.where(1) + "/" + x.function(1, 0) + "/" + x.local(1, 0, 7) + "/" + x.local(1, 1, 0), "17/0/0/-");
    }
  }

  /** A PROCESS may become another one as often as it likes. */
  private static void manyExecs() {
    Checks.sentence("Otherwise the PROCESS has that PROGRAM, all cells 0, BREAK 32, one FRAME of F, no handlers, nothing HELD; DESCRIPTORS and signals stay; it begins with F.");
    for (int level = 0; level <= 2; level++) {
      Pagekernel x = Checks.with("G ( a ) { if ( a < 3 ) return 1 ; return a * 2 ; } F ( ) { get ( & a ) ; if ( a ) exec ( 0 ) ; while ( b < 5 ) { c = c + b ; b = b + 1 ; } c = G ( c ) ; put ( c ) ; get ( & a ) ; exec ( 0 ) ; }");
      x.level(level);
      x.start(0);
      for (int i = 0; i < 60; i++) {
        x.give(1);
        x.run(9);
      }
      // each time get, if, exec, and a get that WAITS
      Checks.due("TICKS", x.house(6), 60 * 4);
      x.give(0);
      x.give(1);
      x.give(0);
      x.run(200);
      Checks.due("OUTS", x.out(0), "1:20 1:20");
      Checks.due("isSound()", x.isSound(), true);
    }
  }

  private static void waits() {
    Checks.sentence("wait(a): a is an ADDRESS, or 0. -1 without children that are READY, WAITING or ENDED.");
    eachTells("", "wait ( a )", -1, new int[] {0, 8, 31}, new int[] {0});
    Checks.due("behind the last one", Checks.outs("F ( ) { b = fork ( ) ; if ( b == 0 ) exit ( 3 ) ; a = wait ( & c ) ; put ( a ) ; put ( c ) ; a = wait ( & c ) ; put ( a ) ; put ( c ) ; }"), "1:2 1:3 1:-1 1:3");
    Checks.due("grandchildren are none", Checks.outs("F ( ) { b = fork ( ) ; if ( b == 0 ) { b = fork ( ) ; if ( b ) exit ( 1 ) ; while ( c < 6 ) { c = c + 1 ; pause ( ) ; } exit ( 2 ) ; } a = wait ( 0 ) ; put ( a ) ; "
        + "a = wait ( 0 ) ; put ( a ) ; }"), "1:2 1:-1");
    Checks.sentence("With an ENDED child: that with the smallest PID is GONE, its CODE is stored at a (unless a is 0); its PID. Otherwise it WAITS.");
    // the smaller PID has the greater SLOT
    Pagekernel x = Checks.begun("F ( ) { b = fork ( ) ; if ( b == 0 ) exit ( 19 ) ; b = fork ( ) ; if ( b == 0 ) { while ( e < 9 ) e = e + 1 ; exit ( 18 ) ; } wait ( 0 ) ; b = fork ( ) ; if ( b == 0 ) exit ( 17 ) ; "
        + "while ( e < 19 ) e = e + 1 ; a = wait ( & d ) ; put ( a ) ; put ( d ) ; a = wait ( & d ) ; put ( a ) ; put ( d ) ; get ( y ) ; }", 0);
    for (int i = 0; i < 200 && x.state(3) * 10 + x.state(4) != 33; i++) {
      x.step();
    }
    Checks.due("STATES", "" + x.state(1) + x.state(2) + x.state(3) + x.state(4), "1433");
    Checks.due("SLOTS", x.ofProcess(3, 11) * 10 + x.ofProcess(4, 11), 21);
    x.run(200);
    Checks.due("by PIDS", x.out(0), "1:3 1:18 1:4 1:17");
    // those that are not ENDED stand in nobody's way, whatever their PIDS
    Pagekernel w = Checks.begun("F ( ) { b = fork ( ) ; if ( b == 0 ) while ( 1 ) ; b = fork ( ) ; if ( b == 0 ) get ( y ) ; b = fork ( ) ; if ( b == 0 ) exit ( 6 ) ; a = wait ( & c ) ; get ( y ) ; }", 0);
    w.run(90);
    Checks.due("the ENDED one", w.cell(1, 8) + w.cell(1, 10) + "/" + w.children(1) + "/" + w.state(4), "46/2 3/4");
    // a child in SLOT 0
    Pagekernel v = Checks.with("F ( ) { }");
    Checks.write(v, 1, "F ( ) { get ( y ) ; a = fork ( ) ; if ( a == 0 ) exit ( 7 ) ; b = wait ( & c ) ; get ( y ) ; }");
    Checks.write(v, 2, "F ( ) { get ( y ) ; }");
    v.start(2);
    v.start(1);
    v.run(9);
    v.send(1, 3);
    v.run(9);
    v.give(0);
    Checks.ticks(v, 2);
    Checks.due("its SLOT", v.ofProcess(3, 11), 0);
    v.run(60);
    Checks.due("it is waited for", v.cell(2, 9) + v.cell(2, 10) + v.state(3), "374");
    Pagekernel y = Checks.begun("F ( ) { b = fork ( ) ; if ( b == 0 ) { get ( y ) ; exit ( 9 ) ; } d = 6 ; a = wait ( 0 ) ; put ( a ) ; put ( d ) ; }", 0);
    y.run(60);
    Checks.due("it WAITS", y.state(1) * 100 + y.waitsIn(1), 200 + Checks.token("wait"));
    y.give(0);
    y.run(60);
    Checks.due("0 stores nothing", y.out(0), "1:2 1:6");
    Checks.sentence("exit(c): it ends with the CODE c.");
    for (int code : new int[] {LEAST, -1, 0, 1, MOST}) {
      Pagekernel z = Checks.begun("F ( ) { get ( & a ) ; exit ( a ) ; put ( 1 ) ; }", 0);
      z.give(code);
      z.run(60);
      Checks.due("CODE", z.ofProcess(1, 7), code);
      Checks.due("WHY and OUTS", z.ofProcess(1, 8) + z.out(0), "1");
    }
  }

  // ---- PIPES

  private static void pipes() {
    Checks.sentence("pipe(a): a and a + 1 are ADDRESSES. -1 if fewer than 2 DESCRIPTORS are free, or there are 4 PIPES.");
    for (int open = 0; open <= 6; open++) {
      Pagekernel x = Checks.begun("F ( ) { int d ; " + Checks.times("open ( 1 , 1 ) ;", open) + "x [ 3 ] = 9 ; x [ 4 ] = 9 ; d = pipe ( x + 3 ) ; get ( y ) ; }", 0);
      x.run(60);
      boolean isDone = open <= 4;
      Checks.due("told with " + open + " open", x.local(1, 0, 3), isDone ? "0" : "-1");
      Checks.due("stored", x.cell(1, 19) + "/" + x.cell(1, 20), isDone ? open + "/" + (open + 1) : "9/9");
      Checks.due("PIPES and OPENINGS", x.house(2) * 10 + x.house(13), isDone ? 12 + open : open);
    }
    Checks.sentence("Otherwise the smallest free DESCRIPTOR leads to the reading end of a new PIPE, the next free one to its writing end; both are stored at a and a + 1; 0.");
    for (int first = 0; first < 6; first++) {
      for (int second = first + 1; second < 6; second++) {
        Pagekernel x = Checks.begun("F ( ) { " + Checks.times("open ( 1 , 1 ) ;", 6) + "close ( " + second + " ) ; close ( " + first + " ) ; a = 7 ; a = pipe ( x ) ; get ( y ) ; }", 0);
        x.run(60);
        Checks.due("told", x.cell(1, 8) + x.cell(1, 16) + x.cell(1, 17), "0" + first + second);
        Checks.due("DESCRIPTORS", x.descriptor(1, first) + x.descriptor(1, second), "r0w0");
      }
    }
    Checks.sentence("A PIPE (0 to 3, the smallest that is not there) is there as long as a DESCRIPTOR leads to one of its ends; it holds 4 cells at most.");
    Pagekernel x = Checks.begun("F ( ) { pipe ( x ) ; pipe ( x ) ; pipe ( x ) ; close ( 1 ) ; close ( 3 ) ; close ( 5 ) ; a = pipe ( x ) ; close ( 3 ) ; b = pipe ( x ) ; close ( 2 ) ; c = pipe ( x ) ; get ( y ) ; }", 7);
    Checks.due("the fourth", x.cell(1, 8) + x.cell(1, 16) + x.cell(1, 17) + x.descriptor(1, 1) + x.descriptor(1, 3), "013r3w3");
    Checks.due("PIPES", x.house(2), 4);
    Checks.ticks(x, 2);
    Checks.due("two DESCRIPTORS are free", x.descriptor(1, 3) + x.descriptor(1, 5), "--");
    Checks.due("each PIPE has one end", "" + x.ofPipe(0, 1) + x.ofPipe(0, 2) + x.ofPipe(1, 1) + x.ofPipe(1, 2) + x.ofPipe(2, 1) + x.ofPipe(2, 2) + x.ofPipe(3, 1) + x.ofPipe(3, 2), "10101010");
    Checks.due("no fifth", x.cell(1, 9) + x.house(2), "-14");
    Checks.ticks(x, 1);
    Checks.due("three", x.house(2) + "/" + x.ofPipe(1, 0), "3/-1");
    Checks.ticks(x, 1);
    Checks.due("the smallest that is not there", x.cell(1, 10) + x.descriptor(1, 2) + x.descriptor(1, 3) + x.house(2), "0r1w14");
  }

  private static void pipesApart() {
    Checks.sentence("A PIPE (0 to 3, the smallest that is not there) is there as long as a DESCRIPTOR leads to one of its ends; it holds 4 cells at most.");
    for (int end = 0; end < 2; end++) {
      Pagekernel x = Checks.begun("F ( ) { pipe ( x ) ; write ( 1 , 5 ) ; write ( 1 , 6 ) ; close ( " + end + " ) ; get ( y ) ; close ( " + (1 - end) + " ) ; pipe ( x ) ; get ( y ) ; }", 0);
      x.run(9);
      Checks.due("cells with one end", x.inPipe(0), "5 6");
      x.give(0);
      x.run(9);
      Checks.due("a new one", x.inPipe(0) + "/" + x.ofPipe(0, 0), "/0");
    }
    Pagekernel y = Checks.begun("F ( ) { pipe ( x ) ; write ( 1 , 5 ) ; get ( y ) ; }", 0);
    y.run(9);
    y.crash(0, false);
    y.start(0);
    Checks.ticks(y, 1);
    Checks.due("a new one behind a crash", y.inPipe(0), "");
    Pagekernel z = Checks.begun("F ( ) { pipe ( x ) ; pipe ( x + 2 ) ; pipe ( x + 4 ) ; while ( a < 4 ) { write ( 1 , a + 10 ) ; write ( 3 , a + 14 ) ; write ( 5 , a + 18 ) ; a = a + 1 ; } while ( 1 ) { get ( & b ) ; read ( b , & c ) ; } }", 0);
    z.run(60);
    String[] due = {"10 11 12 13", "14 15 16 17", "18 19 20 21"};
    for (int d : new int[] {2, 0, 4, 4, 2, 0}) {
      z.give(d);
      z.run(9);
      Checks.due("taken out", z.cell(1, 10), due[d / 2].split(" ")[0]);
      due[d / 2] = due[d / 2].substring(3);
      Checks.due("each for itself", z.inPipe(0) + "/" + z.inPipe(1) + "/" + z.inPipe(2), String.join("/", due));
    }
  }

  private static void pipeReads() {
    Checks.sentence("read(d, a): -1 if d is no DESCRIPTOR that is open, or not one for reading.");
    eachTells("pipe ( x ) ; open ( 1 , 1 ) ; open ( 1 , 3 ) ; close ( 0 ) ;", "read ( a , & d )", -1, new int[] {-1, 0, 1, 2, 3, 4, 5, 6, LEAST, MOST}, new int[] {0});
    Checks.sentence("PIPE: with a cell the first one is taken out and stored; 1; without one 0, if no DESCRIPTOR of all PROCESSES leads to its writing end; otherwise it WAITS.");
    for (int cells = 0; cells <= 4; cells++) {
      Pagekernel x = Checks.begun("F ( ) { pipe ( x ) ; while ( b < " + cells + " ) { b = b + 1 ; write ( 1 , b ) ; } get ( y ) ; close ( 1 ) ; while ( 1 ) { c = 9 ; a = read ( 0 , & c ) ; get ( y ) ; } }", 0);
      x.run(60);
      Checks.due("cells", x.ofPipe(0, 0), cells);
      x.give(0);
      x.run(60);
      for (int i = 1; i <= cells; i++) {
        Checks.due("with a cell", x.cell(1, 8) + x.cell(1, 10), "1" + i);
        Checks.due("one less", x.ofPipe(0, 0), cells - i);
        x.give(0);
        x.run(60);
      }
      Checks.due("without one", x.cell(1, 8) + x.cell(1, 10), "09");
    }
    Pagekernel x = Checks.begun("F ( ) { pipe ( x ) ; fork ( ) ; a = pid ( ) ; if ( a == 1 ) { close ( 1 ) ; c = read ( 0 , & d ) ; get ( y ) ; } get ( y ) ; close ( 1 ) ; get ( y ) ; }", 0);
    x.run(60);
    Checks.due("a writer is somewhere: it WAITS", x.waitsIn(1) + "/" + x.can(1), Checks.token("read") + "/false");
    x.give(0);
    x.run(60);
    Checks.due("none any more: 0", x.cell(1, 10) + x.state(1), "02");
    Checks.due("in get now", x.waitsIn(1), Checks.token("get"));
    Pagekernel y = Checks.begun("F ( ) { pipe ( x ) ; a = read ( 0 , & b ) ; }", 0);
    y.run(60);
    Checks.due("its own writing end counts", y.state(1) * 10 + y.ofPipe(0, 2), 21);
  }

  private static void pipeWrites() {
    Checks.sentence("write(d, v): -1 if d is not open for writing.");
    eachTells("pipe ( x ) ; open ( 1 , 1 ) ; open ( 1 , 0 ) ; close ( 1 ) ;", "write ( a , 5 )", -1, new int[] {-1, 0, 1, 3, 4, 5, 6, LEAST, MOST}, new int[] {0});
    Checks.sentence("PIPE: -1 if no DESCRIPTOR leads to its reading end; WAITS with 4 cells; otherwise 1.");
    Pagekernel x = Checks.begun("F ( ) { pipe ( x ) ; while ( 1 ) { get ( & b ) ; c = write ( 1 , b ) ; put ( c ) ; } }", 0);
    int[] values = {LEAST, -1, 0, MOST};
    for (int i = 0; i < 4; i++) {
      Checks.due("cells", x.ofPipe(0, 0), i == 0 ? -1 : i);
      x.give(values[i]);
      x.run(60);
    }
    Checks.due("four", x.inPipe(0), LEAST + " -1 0 " + MOST);
    Checks.due("told", x.out(0), "1:1 1:1 1:1 1:1");
    x.give(5);
    x.run(60);
    Checks.due("the fifth WAITS", x.waitsIn(1) + "/" + x.can(1) + "/" + x.ofPipe(0, 0), Checks.token("write") + "/false/4");
    for (int cells = 0; cells <= 4; cells++) {
      Pagekernel y = Checks.begun("F ( ) { pipe ( x ) ; while ( a < " + cells + " ) { write ( 1 , a ) ; a = a + 1 ; } close ( 0 ) ; c = write ( 1 , 7 ) ; get ( y ) ; }", 0);
      y.run(60);
      Checks.due("no reader, " + cells + " cells", y.cell(1, 10) + y.ofPipe(0, 0), "-1" + cells);
    }
    Pagekernel z = Checks.begun("F ( ) { pipe ( x ) ; fork ( ) ; a = pid ( ) ; if ( a == 1 ) { close ( 0 ) ; while ( b < 4 ) { write ( 1 , b ) ; b = b + 1 ; } c = write ( 1 , 9 ) ; get ( y ) ; } get ( y ) ; d = read ( 0 , & e ) ; "
        + "get ( y ) ; close ( 0 ) ; get ( y ) ; }", 0);
    z.run(60);
    Checks.due("it WAITS", z.waitsIn(1) * 10 + z.ofPipe(0, 0), Checks.token("write") * 10 + 4);
    z.give(0);
    z.run(60);
    Checks.due("room for it", z.inPipe(0) + "/" + z.cell(1, 10) + "/" + z.cell(2, 12), "1 2 3 9/1/0");
  }

  // ---- FILES

  private static void opens() {
    Checks.sentence("-1 if n or m is none of these, no DESCRIPTOR is free, or, with mode 0, there is no such FILE, or, with another mode, there is none, and there are 12 BODIES.");
    eachTells("", "open ( a , b )", -1, new int[] {-1, 8, LEAST, MOST}, new int[] {-1, 0, 1, 2, 3, 4});
    eachTells("", "open ( a , b )", -1, new int[] {0, 1, 7}, new int[] {-1, 4, LEAST, MOST});
    eachTells("", "open ( a , b )", -1, new int[] {0, 1, 2, 3, 4, 5, 6, 7}, new int[] {0});
    Pagekernel none = asked("", "open ( a , b )");
    asks(none, "open", 8, 2, -1);
    asks(none, "open", 7, 4, -1);
    Checks.due("no ACT, no FILE, no OPENING", none.house(5) + none.house(3) + none.house(13), 0);
    // no DESCRIPTOR is free
    Pagekernel full = Checks.with("F ( ) { int d ; d = 6 ; while ( d ) { open ( 1 , 3 ) ; d = d - 1 ; } write ( 0 , 5 ) ; while ( 1 ) { get ( & a ) ; get ( & b ) ; c = open ( a , b ) ; put ( c ) ; } }");
    full.start(0);
    full.run(200);
    int acts = full.house(5);
    for (int mode = 0; mode <= 3; mode++) {
      asks(full, "open of one that is there, without a free DESCRIPTOR", 1, mode, -1);
      asks(full, "open of a new one, without a free DESCRIPTOR", 2, mode, -1);
    }
    Checks.due("nothing was made or emptied", full.house(5) - acts + "/" + full.inFile(1) + "/" + full.inFile(2), "0/5/-");
    Checks.sentence("Otherwise the smallest free DESCRIPTOR, at the position 0.");
    for (int name = 0; name < 8; name++) {
      for (int mode = 0; mode <= 3; mode++) {
        for (int there = 0; there <= 2; there++) {
          Pagekernel x = asked("pipe ( x ) ; pipe ( x ) ; close ( 1 ) ;", "open ( a , b )");
          for (int i = 0; i < there; i++) {
            x.store(name, 6);
          }
          acts = x.house(5);
          boolean isRefused = there == 0 && mode == 0;
          asks(x, "open with " + there + " cells", name, mode, isRefused ? -1 : 1);
          Checks.due("descriptor", x.descriptor(1, 1), isRefused ? "-" : "f" + name + "@0:" + mode);
          int made = there == 0 && mode > 0 ? 1 : 0;
          int emptied = there > 0 && mode == 2 ? 1 : 0;
          Checks.due("ACTS", x.house(5) - acts, made + emptied);
          Checks.due("cells", x.size(name), isRefused ? -1 : emptied == 1 ? 0 : there);
        }
      }
    }
    Checks.sentence("That a FILE is made, and that one with cells is emptied (all positions in it become 0), are ACTS.");
    Pagekernel y = Checks.begun("F ( ) { open ( 1 , 1 ) ; open ( 1 , 0 ) ; open ( 1 , 3 ) ; write ( 0 , 4 ) ; write ( 2 , 5 ) ; read ( 1 , & a ) ; open ( 2 , 1 ) ; write ( 3 , 6 ) ; open ( 1 , 2 ) ; get ( y ) ; "
        + "open ( 1 , 2 ) ; get ( y ) ; }", 8);
    Checks.due("positions before", y.descriptor(1, 0) + y.descriptor(1, 1) + y.descriptor(1, 2) + y.descriptor(1, 3), "f1@1:1f1@1:0f1@2:3f2@1:1");
    int before = y.house(5);
    Checks.ticks(y, 1);
    Checks.due("positions then", y.descriptor(1, 0) + y.descriptor(1, 1) + y.descriptor(1, 2) + y.descriptor(1, 3) + y.descriptor(1, 4), "f1@0:1f1@0:0f1@0:3f2@1:1f1@0:2");
    Checks.due("an ACT more", y.house(5) - before, 1);
    y.give(0);
    y.run(9);
    Checks.due("it has none now: no ACT", y.house(5) - before, 1);
  }

  private static void fileReads() {
    Checks.sentence("FILE: with the position at its end 0; otherwise the cell is stored at a, the position is 1 more; 1.");
    for (int cells = 0; cells <= 16; cells++) {
      Pagekernel x = Checks.begun("F ( ) { get ( y ) ; open ( 7 , 0 ) ; while ( 1 ) { b = 0 ; a = read ( 0 , & b ) ; get ( y ) ; } }", 0);
      for (int i = 0; i < cells; i++) {
        x.store(7, 100 + i);
      }
      if (cells == 0) {
        x.store(7, 1);
        x.remove(7);
        Pagekernel y = Checks.begun("F ( ) { open ( 7 , 1 ) ; open ( 7 , 0 ) ; b = 9 ; a = read ( 1 , & b ) ; get ( y ) ; }", 0);
        y.run(60);
        Checks.due("a FILE without cells", y.cell(1, 8) + y.cell(1, 9) + y.descriptor(1, 1), "09f7@0:0");
        continue;
      }
      for (int i = 0; i <= cells; i++) {
        x.give(0);
        x.run(60);
        Checks.due("read " + i + " of " + cells, x.cell(1, 8) + "/" + x.cell(1, 9), i < cells ? "1/" + (100 + i) : "0/0");
        Checks.due("position", x.descriptor(1, 0), "f7@" + Math.min(i + 1, cells) + ":0");
      }
      if (cells < 16) {
        x.store(7, 5);
        x.give(0);
        x.run(60);
        Checks.due("one more is there", x.cell(1, 8) + x.cell(1, 9), "15");
      }
    }
  }

  private static void fileWrites() {
    Checks.sentence("FILE: with mode 3 the position becomes the end (also if -1 is told then); -1 at the position 16; otherwise v is the cell there (one more, at the end), the position is 1 more; 1; an ACT.");
    for (int mode = 1; mode <= 3; mode++) {
      for (int there = 0; there <= 16; there += there < 14 ? 7 : 1) {
        Pagekernel x = Checks.begun("F ( ) { get ( y ) ; open ( 4 , " + mode + " ) ; while ( 1 ) { get ( & a ) ; b = write ( 0 , a ) ; } }", 0);
        for (int i = 0; i < there; i++) {
          x.store(4, 7);
        }
        x.give(0);
        x.run(60);
        x.sync();
        int size = mode == 2 ? 0 : there;
        int position = 0;
        for (int i = 0; i < 18; i++) {
          position = mode == 3 ? size : position;
          boolean isFull = position == 16;
          int acts = x.house(5);
          x.give(LEAST + i);
          x.run(60);
          position += isFull ? 0 : 1;
          size = Math.max(size, position);
          Checks.due("write " + i + " with mode " + mode + " and " + there + " cells", x.cell(1, 9), isFull ? "-1" : "1");
          Checks.due("position", x.descriptor(1, 0), "f4@" + position + ":" + mode);
          Checks.due("size", x.size(4), size);
          Checks.due("an ACT", x.house(5) - acts, isFull ? 0 : 1);
          if (!isFull) {
            Checks.due("the cell", x.inFile(4).split(" ")[position - 1], "" + (LEAST + i));
          }
        }
      }
    }
    Pagekernel y = Checks.begun("F ( ) { open ( 4 , 3 ) ; get ( y ) ; a = write ( 0 , 1 ) ; get ( y ) ; }", 2);
    for (int i = 0; i < 16; i++) {
      y.store(4, i);
    }
    Checks.due("the position before", y.descriptor(1, 0), "f4@0:3");
    y.give(0);
    y.run(60);
    Checks.due("-1, and the position is the end", y.cell(1, 8) + y.descriptor(1, 0), "-1f4@16:3");
    // what others wrote meanwhile lies behind none
    Pagekernel z = Checks.begun("F ( ) { open ( 4 , 1 ) ; get ( y ) ; write ( 0 , 1 ) ; get ( y ) ; }", 2);
    z.store(4, 5);
    z.store(4, 6);
    z.give(0);
    z.run(60);
    Checks.due("over the first cell", z.inFile(4), "1 6");
  }

  private static void closesAndUnlinks() {
    Checks.sentence("close(d): 0; -1 if it is not open.");
    eachTells("open ( 1 , 1 ) ; open ( 1 , 1 ) ; close ( 0 ) ;", "close ( a )", -1, new int[] {-1, 0, 2, 5, 6, LEAST, MOST}, new int[] {0});
    for (int d = 0; d < 6; d++) {
      Pagekernel x = asked(Checks.times("open ( 1 , 1 ) ;", 6), "close ( a )");
      asks(x, "close", d, 0, 0);
      Checks.due("descriptor", x.descriptor(1, d) + x.ofProcess(1, 9), "-5");
      asks(x, "close again", d, 0, -1);
      Checks.due("five still", x.ofProcess(1, 9), 5);
    }
    Checks.sentence("unlink(n): the name is gone, an ACT; 0; -1 if there is no such FILE.");
    eachTells("open ( 1 , 1 ) ; unlink ( 1 ) ;", "unlink ( a )", -1, new int[] {-1, 0, 1, 7, 8, LEAST, MOST}, new int[] {0});
    for (int name = 0; name < 8; name++) {
      Pagekernel x = asked("", "unlink ( a )");
      x.store(name, 3);
      asks(x, "unlink", name, 0, 0);
      Checks.due("ACTS, FILES, BODIES", x.house(5) * 100 + x.house(3) * 10 + x.house(4), 300);
      asks(x, "unlink again", name, 0, -1);
      Checks.due("no ACT", x.house(5), 3);
    }
    Checks.sentence("Its BODY is there as long as it is open somewhere.");
    Pagekernel w = Checks.begun("F ( ) { open ( 1 , 1 ) ; unlink ( 1 ) ; pipe ( x ) ; write ( 2 , 5 ) ; close ( 1 ) ; close ( 2 ) ; get ( y ) ; }", 6);
    Checks.due("whatever else is closed", w.house(4) + "/" + w.house(13) + "/" + w.house(2) + "/" + w.descriptor(1, 0), "1/1/0/f-@0:1");
    Checks.due("a new FILE has a BODY of its own", w.store(1, 9) * 10 + w.house(4), 12);
    Pagekernel x = Checks.begun("F ( ) { open ( 6 , 1 ) ; fork ( ) ; get ( y ) ; }", 0);
    x.run(9);
    x.remove(6);
    Checks.due("BODIES", x.house(4), 1);
    Checks.due("without a name", x.descriptor(1, 0) + x.descriptor(2, 0), "f-@0:1f-@0:1");
    x.send(1, 3);
    x.run(9);
    Checks.due("BODIES", x.house(4), 1);
    x.send(2, 3);
    x.run(9);
    Checks.due("BODIES", x.house(4), 0);
    Pagekernel z = asked(Checks.times("open ( 1 , 1 ) ; unlink ( 1 ) ;", 6), "close ( a )");
    int left = 6;
    for (int d : new int[] {3, 5, 0, 4, 2, 1}) {
      Checks.due("BODIES", z.house(4), left);
      asks(z, "close", d, 0, 0);
      left--;
      Checks.due("BODIES", z.house(4), left);
    }
    Pagekernel y = Checks.begun("F ( ) { open ( 6 , 1 ) ; write ( 0 , 4 ) ; unlink ( 6 ) ; open ( 6 , 1 ) ; write ( 0 , 5 ) ; get ( y ) ; }", 0);
    y.run(9);
    Checks.due("another one with its name", y.inFile(6) + y.descriptor(1, 0) + y.descriptor(1, 1), "f-@2:1f6@0:1");
  }

  private static void twelveBodies() {
    Checks.sentence("BODIES: those with a name, and those without one that are open.");
    for (int unnamed = 3; unnamed <= 5; unnamed++) {
      Pagekernel x = Checks.with("F ( ) { while ( a < " + unnamed + " ) { open ( a , 1 ) ; unlink ( a ) ; a = a + 1 ; } while ( 1 ) { get ( & a ) ; get ( & b ) ; c = open ( a , b ) ; put ( c ) ; } }");
      x.start(0);
      x.run(200);
      for (int name = 0; name < 7; name++) {
        Checks.due("store", x.store(name, 1), 1);
      }
      Checks.due("BODIES", x.house(4), 7 + unnamed);
      int acts = x.house(5);
      for (int mode = 1; mode <= 3; mode++) {
        if (unnamed == 5) {
          asks(x, "a 13th", 7, mode, -1);
          Checks.due("no ACT, no FILE", x.house(5) - acts + x.size(7), -1);
          Checks.due("store of a 13th", x.store(7, 1), -9);
        }
      }
      if (unnamed == 5) {
        asks(x, "one that is there", 6, 2, 5);
        Checks.due("BODIES", x.house(4), 12);
      } else {
        asks(x, "a new one", 7, 2, unnamed);
        Checks.due("BODIES", x.house(4), 8 + unnamed);
      }
    }
  }

  // ---- the others

  private static void kills() {
    Checks.sentence("kill(p, s): -1 if s is not 1 to 3, or the PROCESS p is not READY or WAITING; otherwise s is a signal of that (once); 0.");
    String family = "d = fork ( ) ; if ( d == 0 ) exit ( 1 ) ; d = fork ( ) ; if ( d == 0 ) get ( y ) ; d = fork ( ) ; if ( d == 0 ) while ( 1 ) ; on ( 1 , 3 ) ;";
    int[] none = {-1, 0, 2, 5, 60, 61, LEAST, MOST};
    eachTells("d = fork ( ) ; if ( d == 0 ) exit ( 1 ) ;", "kill ( a , b )", -1, none, new int[] {1, 2, 3});
    eachTells("", "kill ( a , b )", -1, new int[] {1, 2, 0}, new int[] {0, 4, -1, LEAST, MOST});
    Pagekernel x = Checks.begun("I ( a ) { } F ( ) { " + family + " b = kill ( 4 , 1 ) ; c = kill ( 3 , 2 ) ; d = kill ( 1 , 1 ) ; e = kill ( 2 , 3 ) ; get ( & h ) ; }", 0);
    Checks.due("STATES", x.house(8), 1);
    int ticks = 0;
    while (x.cell(1, 12).equals("0") && ticks < 200) {
      x.step();
      ticks++;
    }
    Checks.due("told to READY, WAITING, itself, ENDED", x.cell(1, 9) + x.cell(1, 10) + x.cell(1, 11) + x.cell(1, 12), "000-1");
    x.run(60);
    Checks.due("ended by them", x.ofProcess(4, 7) * 1000 + x.ofProcess(3, 7), 101102);
    for (int s = 1; s <= 3; s++) {
      for (String child : new String[] {"while ( 1 ) ;", "get ( y ) ;"}) {
        Pagekernel z = Checks.begun("F ( ) { a = fork ( ) ; if ( a == 0 ) { while ( 1 ) { " + child + " } } pause ( ) ; b = kill ( a , " + s + " ) ; c = kill ( a , " + s + " ) ; d = wait ( & e ) ; get ( y ) ; }", 0);
        z.run(60);
        Checks.due("kill with " + s, z.cell(1, 9) + z.cell(1, 10) + z.cell(1, 11) + "/" + z.cell(1, 12), "002/" + (100 + s));
        Checks.due("its WHY", z.ofProcess(2, 8), 5);
      }
    }
    Pagekernel y = Checks.with("I ( a ) { c = c + 1 ; } F ( ) { on ( 1 , 3 ) ; b = pid ( ) ; a = fork ( ) ; if ( a == 0 ) { kill ( b , 1 ) ; kill ( b , 1 ) ; kill ( b , 1 ) ; exit ( 0 ) ; } pause ( ) ; wait ( 0 ) ; get ( & h ) ; }");
    y.quantum(10);
    y.start(0);
    y.run(60);
    Checks.due("once", y.cell(1, 10), "1");
  }

  private static void handlersTold() {
    Checks.sentence("on(s, k): s 1 or 2; k 0 (no handler), or 1 to 3 (G, H, I), if that is defined in its PROGRAM with one parameter: the handler of s is that; it tells the one before (0 at first); -1 "
        + "otherwise.");
    // G is not defined, H has no parameter, I has one
    int[] all = {-1, 0, 1, 2, 3, 4, LEAST, MOST};
    eachTells("", "on ( a , b )", -1, new int[] {0, 3, 4, -1, LEAST, MOST}, all);
    eachTells("", "on ( a , b )", -1, new int[] {1, 2}, new int[] {1, 2, 4, -1, LEAST, MOST});
    Pagekernel x = asked("", "on ( a , b )");
    asks(x, "on", 1, 3, 0);
    asks(x, "on", 1, 2, -1);
    Checks.due("handlers", x.handler(1, 1) * 10 + x.handler(1, 2), 30);
    asks(x, "on", 2, 0, 0);
    asks(x, "on", 2, 3, 0);
    asks(x, "on", 1, 0, 3);
    Checks.due("handlers", x.handler(1, 1) * 10 + x.handler(1, 2), 3);
    asks(x, "on", 1, 0, 0);
    asks(x, "on", 2, 3, 3);
    for (int parameters = 0; parameters <= 3; parameters++) {
      String list = new String[] {"", "a", "a , b", "a , b , c"}[parameters];
      for (int k = 1; k <= 3; k++) {
        String function = "FGHI".substring(k, k + 1);
        int due = parameters == 1 ? 0 : -1;
        Checks.due(function + " with " + parameters, Checks.outs(function + " ( " + list + " ) { } F ( ) { a = on ( 1 , " + k + " ) ; put ( a ) ; }"), "1:" + due);
      }
    }
    Checks.due("of its own PROGRAM as it was", ofItsOwnProgram(), "03");
  }

  private static String ofItsOwnProgram() {
    Pagekernel x = Checks.begun("I ( a ) { } F ( ) { ; a = on ( 1 , 3 ) ; get ( y ) ; }", 1);
    Checks.write(x, 0, "F ( ) { }");
    x.run(9);
    return x.cell(1, 8) + x.handler(1, 1);
  }

  private static void outsAndInputs() {
    Checks.sentence("put(v): PID and v are added to OUTS; v.");
    Pagekernel x = asked("", "put ( a )");
    for (int v : new int[] {LEAST, -1, 0, 1, MOST}) {
      int told = x.house(10);
      x.give(v);
      x.give(0);
      x.run(60);
      Checks.due("put", x.out(told), "1:" + v + " 1:" + v);
    }
    Checks.sentence("get(a): WAITS without INPUTS; the first one is taken out and stored; 1.");
    for (int many = 0; many <= 10; many++) {
      Pagekernel y = Checks.with("F ( ) { a = get ( & b ) ; while ( 1 ) ; }");
      for (int i = 0; i < many; i++) {
        Checks.due("give", y.give(50 + i), i + 1);
      }
      y.start(0);
      y.step();
      Checks.due("STATE with " + many, y.state(1), many == 0 ? 2 : 1);
      Checks.due("told and stored", y.cell(1, 8) + "/" + y.cell(1, 9), many == 0 ? "0/0" : "1/50");
      Checks.due("left", y.house(9), Math.max(0, many - 1));
      Checks.due("INPUTS", y.inputs().startsWith(many < 2 ? "" : "51"), true);
    }
    Checks.sentence("pid(): its PID.");
    Pagekernel z = Checks.with("F ( ) { }");
    Checks.write(z, 1, "F ( ) { a = pid ( ) ; put ( a ) ; }");
    for (int i = 1; i < 60; i++) {
      z.start(0);
    }
    z.start(1);
    z.run(9);
    Checks.due("the 60th", z.out(0), "60:60");
    Checks.sentence("sync(): a SYNC; how many ACTS were PENDING.");
    for (int acts = 0; acts <= 19; acts++) {
      Pagekernel w = Checks.begun("F ( ) { get ( y ) ; a = sync ( ) ; b = sync ( ) ; get ( y ) ; }", 1);
      w.store(0, 1);
      w.store(1, 1);
      w.sync();
      for (int i = 0; i < acts; i++) {
        w.store(i % 2, i);
      }
      int pending = w.house(5);
      Checks.due("PENDING", pending, acts);
      String now = w.would(pending);
      w.give(0);
      w.run(9);
      Checks.due("sync of " + pending, w.cell(1, 8) + "/" + w.cell(1, 9), pending + "/0");
      Checks.due("PENDING", w.house(5) + w.would(0), "0" + now);
    }
  }

  // ---- signals

  private static void takenInOrder() {
    Checks.sentence("To be taken is 3; otherwise, if nothing is HELD, the smaller one of 1 and 2 that it has.");
    for (int mask = 1; mask < 8; mask++) {
      Pagekernel x = Checks.begun("I ( a ) { while ( 1 ) ; } F ( ) { on ( 1 , 3 ) ; on ( 2 , 3 ) ; while ( 1 ) ; }", 3);
      for (int s = 3; s >= 1; s--) {
        if ((mask >> s - 1 & 1) == 1) {
          x.send(1, s);
        }
      }
      Checks.due("signals", x.ofProcess(1, 3), mask);
      Checks.ticks(x, 1);
      boolean isKilled = mask >= 4;
      int taken = (mask & 1) == 1 ? 1 : 2;
      Checks.due("CODE with " + mask, x.ofProcess(1, 7), isKilled ? 103 : 0);
      Checks.due("HELD with " + mask, x.ofProcess(1, 4), isKilled ? 0 : taken);
      Checks.due("left of " + mask, x.ofProcess(1, 3), isKilled ? 0 : mask & ~taken);
      Checks.due("parameter", x.local(1, 1, 0), isKilled ? "-" : "" + taken);
      x.send(1, 1);
      x.send(1, 2);
      Checks.ticks(x, isKilled ? 0 : 4);
      Checks.due("none of them while it is HELD", x.ofProcess(1, 1) * 10 + x.ofProcess(1, 3), isKilled ? 10 : 23);
      x.send(1, 3);
      x.run(1);
      Checks.due("3 always", x.ofProcess(1, 7), 103);
    }
    Checks.sentence("A signal without handler (3 always) ends the PROCESS: CODE 100 + s.");
    for (int s = 1; s <= 3; s++) {
      Pagekernel x = Checks.begun("F ( ) { pipe ( x ) ; while ( 1 ) ; }", 2);
      x.send(1, s);
      Checks.ticks(x, 1);
      Checks.due("CODE and WHY", x.ofProcess(1, 7) * 10 + x.ofProcess(1, 8), 1005 + 10 * s);
      Checks.due("ended", x.state(1) * 10 + x.house(13), 40);
      // one whose handler is taken back
      Pagekernel y = Checks.begun("I ( a ) { } F ( ) { on ( 1 , 3 ) ; on ( 1 , 0 ) ; on ( 2 , 3 ) ; on ( 2 , 0 ) ; while ( 1 ) ; }", 5);
      y.send(1, s);
      Checks.ticks(y, 1);
      Checks.due("CODE", y.ofProcess(1, 7), 100 + s);
    }
  }

  private static void heldTillItReturns() {
    Checks.sentence("this is HELD till that FRAME returns; then the PROCESS GOES ON with the STATEMENT ahead of which it rested (nothing is told to anybody).");
    Pagekernel x = Checks.begun("G ( b ) { c = c + 1 ; if ( b < 3 ) G ( b + 1 ) ; return 9 ; } I ( a ) { int b ; b = 7 ; G ( 1 ) ; return 8 ; } H ( ) { int b ; b = 4 ; ; ; return b ; } F ( ) { on ( 1 , 3 ) ; d = H ( ) ; "
        + "put ( d ) ; }", 3);
    int rest = x.where(1);
    x.send(1, 1);
    Checks.ticks(x, 1);
    Checks.due("HELD", x.ofProcess(1, 4) * 10 + x.ofProcess(1, 1), 13);
    int ticks = 0;
    while (x.ofProcess(1, 1) > 2 && ticks < 40) {
      Checks.due("HELD in CALLS of its own", x.ofProcess(1, 4), 1);
      x.step();
      ticks++;
    }
    Checks.due("where it rested", x.where(1), rest);
    Checks.due("not HELD", x.ofProcess(1, 4), 0);
    Checks.due("told to nobody", x.local(1, 1, 1) + x.cell(1, 11), "40");
    x.run(60);
    Checks.due("at the end", x.out(0), "1:4");
    // again, and for the other signal
    Pagekernel y = Checks.begun("I ( a ) { c = c * 10 + a ; } F ( ) { on ( 1 , 3 ) ; on ( 2 , 3 ) ; while ( 1 ) ; }", 3);
    for (int s : new int[] {1, 2, 2, 1}) {
      y.send(1, s);
      y.run(3);
    }
    y.run(6);
    Checks.due("each of them", y.cell(1, 10), "1221");
    // the same signal while it is HELD comes behind it
    Pagekernel z = Checks.begun("I ( a ) { c = c * 10 + a ; } F ( ) { on ( 1 , 3 ) ; on ( 2 , 3 ) ; while ( 1 ) ; }", 3);
    z.send(1, 1);
    Checks.ticks(z, 1);
    z.send(1, 2);
    z.send(1, 1);
    z.run(9);
    Checks.due("1, 1 again, 2", z.cell(1, 10), "112");
  }

  private static void handlerAsThirteenth() {
    Checks.sentence("a FRAME of the handler is laid, with s as parameter (TRAP 3, if there are 12),");
    for (String body : new String[] {"", "b = a ;"}) {
      for (int most = 9; most <= 11; most++) {
        Pagekernel x = Checks.begun("I ( a ) { " + body + " } G ( ) { c = c + 1 ; if ( c < " + most + " ) G ( ) ; while ( 1 ) ; } F ( ) { on ( 1 , 3 ) ; on ( 2 , 3 ) ; G ( ) ; }", 0);
        x.run(60);
        Checks.due("FRAMES", x.ofProcess(1, 1), most + 1);
        x.send(1, 2);
        Checks.ticks(x, 1);
        boolean isTrap = most == 11;
        Checks.due("CODE and WHY", x.ofProcess(1, 7) * 10 + x.ofProcess(1, 8), isTrap ? 2034 : 0);
        Checks.due("HELD", x.ofProcess(1, 4), isTrap || body.isEmpty() ? 0 : 2);
        Checks.due("FRAMES", x.ofProcess(1, 1), isTrap ? 12 : most + (body.isEmpty() ? 1 : 2));
      }
    }
  }

  public static void main(String[] arguments) {
    addressesFirst();
    openings();
    forks();
    execs();
    manyExecs();
    waits();
    pipes();
    pipesApart();
    pipeReads();
    pipeWrites();
    opens();
    fileReads();
    fileWrites();
    closesAndUnlinks();
    twelveBodies();
    kills();
    handlersTold();
    outsAndInputs();
    takenInOrder();
    heldTillItReturns();
    handlerAsThirteenth();
    Checks.end();
  }
}
