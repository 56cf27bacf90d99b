/** Promises 12 to 28: PROCESSES as they begin, have TICKS, end, and are looked at. */
public final class ProcessesTest {
  private static final String WAITER = "F ( ) { get ( y ) ; }";

  private static void starting() {
    Pagekernel x = Checks.with("F ( ) { a = 1 ; while ( 1 ) ; }");
    Checks.due("start of a text with an ERROR", x.start(1), -9);
    Checks.due("no PID for it", x.house(8), 0);
    Checks.refused(x, "start(4)", Checks.INDEX, () -> x.start(4));
    Checks.refused(x, "start(-1)", Checks.INDEX, () -> x.start(-1));
    for (int i = 1; i <= 6; i++) {
      Checks.due("start " + i, x.start(0), i);
      Checks.due("state " + i, x.state(i), 1);
      Checks.due("SLOT " + i, x.ofProcess(i, 11), i - 1);
      Checks.due("parent " + i, x.ofProcess(i, 0), 0);
      Checks.due("FRAMES " + i, x.ofProcess(i, 1), 1);
      Checks.due("BREAK " + i, x.ofProcess(i, 2), 32);
      Checks.due("where " + i, x.where(i), 4);
    }
    Checks.refused(x, "a seventh", Checks.STATE, () -> x.start(0));
    Checks.refused(x, "a seventh of an ERROR", Checks.STATE, () -> x.start(1));
    Checks.refused(x, "a seventh of nothing", Checks.INDEX, () -> x.start(4));
    x.send(3, 3);
    x.send(2, 3);
    x.run(20);
    Checks.due("state(3)", x.state(3), 4);
    Checks.due("the smallest free SLOT", x.ofProcess(x.start(0), 11), 1);
    Checks.due("the next one", x.ofProcess(x.start(0), 11), 2);
    // a text that changes then is none of theirs
    Checks.write(x, 0, "F ( ) { ; ; b = 7 ; }");
    Checks.due("where still", x.where(7), 4);
    x.run(30);
    Checks.due("where still", x.where(7) == 8 || x.where(7) == 12, true);
    Checks.due("a still", x.cell(7, 8), "1");
    // no STATEMENT that begins
    Pagekernel y = Checks.with("F ( ) { { int a ; } { } }");
    Checks.due("start", y.start(0), 1);
    Checks.due("GONE at once", y.state(1), 4);
    Checks.due("WHY", y.ofProcess(1, 8), 1);
    Checks.due("CODE", y.ofProcess(1, 7), 0);
    Checks.due("TICKS", y.ofProcess(1, 6), 0);
    Checks.due("FRAMES", y.ofProcess(1, 1), 1);
    Checks.due("SLOT", y.ofProcess(1, 11), -1);
    Checks.due("house(0)", y.house(0), 0);
    for (int i = 2; i <= 60; i++) {
      Checks.due("start", y.start(0), i);
    }
    Checks.refused(y, "a 61st", Checks.STATE, () -> y.start(0));
    Checks.due("PIDS given", y.house(8), 60);
  }

  private static void running() {
    Pagekernel x = Checks.begun("F ( ) { while ( 1 ) ; }", 0);
    for (int wrong : new int[] {0, -1, 201, Integer.MAX_VALUE, Integer.MIN_VALUE}) {
      Checks.refused(x, "run(" + wrong + ")", Checks.ARGUMENT, () -> x.run(wrong));
    }
    Checks.due("run(1)", x.run(1), 1);
    Checks.due("run(200)", x.run(200), 200);
    Checks.due("step()", x.step(), 1);
    Checks.due("house(6)", x.house(6), 202);
    Checks.due("TICKS", x.ofProcess(1, 6), 202);
    x.send(1, 3);
    Checks.due("the last", x.run(200), 1);
    Checks.due("none", x.run(200), 0);
    Checks.due("none", x.step(), -1);
    Checks.due("house(6)", x.house(6), 203);
  }

  private static String turns(Pagekernel x, int many) {
    StringBuilder all = new StringBuilder();
    for (int i = 0; i < many; i++) {
      Checks.due("turn(2) tells the next", x.turn(2), x.step());
      all.append(x.turn(0)).append('/').append(x.turn(1)).append(' ');
    }
    return all.toString().trim();
  }

  private static void turning() {
    Pagekernel x = Checks.with("F ( ) { while ( 1 ) ; }");
    x.start(0);
    x.start(0);
    x.start(0);
    Checks.due("QUANTUM 3", turns(x, 8), "1/1 1/2 1/3 2/1 2/2 2/3 3/1 3/2");
    Checks.due("quantum(1)", x.quantum(1), 3);
    Checks.due("QUANTUM 1", turns(x, 4), "1/1 2/1 3/1 1/1");
    Checks.due("quantum(10)", x.quantum(10), 1);
    Checks.due("QUANTUM 10 counts on", turns(x, 10), "1/2 1/3 1/4 1/5 1/6 1/7 1/8 1/9 1/10 2/1");
    for (int wrong : new int[] {0, 11, -1, Integer.MIN_VALUE}) {
      Checks.refused(x, "quantum(" + wrong + ")", Checks.ARGUMENT, () -> x.quantum(wrong));
    }
    x.quantum(2);
    Checks.due("2", turns(x, 3), "2/2 3/1 3/2");
    x.send(3, 3);
    Checks.due("an end is a TICK too", turns(x, 5), "1/1 1/2 2/1 2/2 3/1");
    Checks.due("TURN is GONE", x.state(3), 4);
    Checks.due("TURN stays", x.turn(0), 3);
    Checks.due("USED stays", x.turn(1), 1);
    Checks.due("a new one in its SLOT", x.ofProcess(x.start(0), 11), 2);
    Checks.due("has to wait for its turn", turns(x, 5), "1/1 1/2 2/1 2/2 4/1");
    Checks.refused(x, "turn(3)", Checks.ARGUMENT, () -> x.turn(3));
    Checks.refused(x, "turn(-1)", Checks.ARGUMENT, () -> x.turn(-1));
    // the only one has its turn anew
    Pagekernel y = Checks.begun("F ( ) { while ( 1 ) ; }", 0);
    Checks.due("alone", turns(y, 5), "1/1 1/2 1/3 1/1 1/2");
    // pause
    Pagekernel z = Checks.with("F ( ) { while ( 1 ) pause ( ) ; }");
    z.start(0);
    z.start(0);
    Checks.due("pause", turns(z, 5), "1/1 1/3 2/1 2/3 1/1");
    z.quantum(5);
    Checks.due("pause with 5", turns(z, 3), "1/5 2/1 2/5");
    // who WAITS has no turn, and TURN goes by SLOTS behind it
    Pagekernel w = Checks.with(WAITER);
    Checks.write(w, 1, "F ( ) { while ( 1 ) ; }");
    w.start(1);
    w.start(0);
    w.start(1);
    Checks.due("around", turns(w, 9), "1/1 1/2 1/3 2/1 3/1 3/2 3/3 1/1 1/2");
    w.give(3);
    Checks.due("it can again", turns(w, 3), "1/3 2/2 3/1".replace("2/2", "2/1"));
    Checks.due("and ended", w.state(2), 4);
  }

  private static void idling() {
    Pagekernel x = Checks.with("F ( ) { while ( 1 ) ; }");
    Checks.write(x, 1, WAITER);
    x.start(0);
    x.start(1);
    x.start(0);
    Checks.ticks(x, 3);
    Checks.due("IDLE of 1", x.ofProcess(1, 10), 0);
    Checks.due("IDLE of 2", x.ofProcess(2, 10), 3);
    Checks.due("IDLE of 3", x.ofProcess(3, 10), 3);
    Checks.ticks(x, 1);
    Checks.due("IDLE of 1", x.ofProcess(1, 10), 1);
    Checks.due("IDLE of 2", x.ofProcess(2, 10), 0);
    Checks.ticks(x, 2);
    Checks.due("IDLE of who WAITS", x.ofProcess(2, 10), 0);
    x.give(1);
    Checks.ticks(x, 1);
    Checks.due("IDLE of who can again", x.ofProcess(2, 10), 1);
    Checks.due("IDLE of 1", x.ofProcess(1, 10), 4);
    x.start(0);
    Checks.due("IDLE of a new one", x.ofProcess(4, 10), 0);
    x.quantum(10);
    x.run(200);
    Checks.due("isSound", x.isSound(), true);
    // the most that can be: five others of ten TICKS each
    Pagekernel y = Checks.with("F ( ) { while ( 1 ) ; }");
    y.quantum(10);
    int most = 0;
    for (int i = 0; i < 6; i++) {
      y.start(0);
    }
    for (int i = 0; i < 62; i++) {
      y.step();
      for (int pid = 1; pid <= 6; pid++) {
        most = Math.max(most, y.ofProcess(pid, 10));
      }
    }
    Checks.due("the most IDLE", most, 50);
    Checks.due("isSound", y.isSound(), true);
  }

  private static void sending() {
    Pagekernel x = Checks.begun("F ( ) { get ( y ) ; ; fork ( ) ; get ( y ) ; }", 0);
    for (int wrong : new int[] {0, 4, -1, Integer.MAX_VALUE}) {
      Checks.refused(x, "send(1, " + wrong + ")", Checks.ARGUMENT, () -> x.send(1, wrong));
      Checks.refused(x, "send(9, " + wrong + ")", Checks.ARGUMENT, () -> x.send(9, wrong));
    }
    Checks.due("send to nobody", x.send(2, 1), 0);
    Checks.due("send to 0", x.send(0, 1), 0);
    Checks.due("send to -1", x.send(-1, 1), 0);
    Checks.due("send to 61", x.send(61, 1), 0);
    Checks.due("send", x.send(1, 2), 1);
    Checks.due("send again", x.send(1, 2), 1);
    Checks.due("signals", x.ofProcess(1, 3), 2);
    x.send(1, 1);
    x.send(1, 3);
    Checks.due("signals", x.ofProcess(1, 3), 7);
    Checks.ticks(x, 1);
    Checks.due("3 goes first", x.ofProcess(1, 7), 103);
    Checks.due("WHY", x.ofProcess(1, 8), 5);
    Checks.due("signals of who is GONE", x.ofProcess(1, 3), 0);
    Checks.due("send to who is GONE", x.send(1, 1), 0);
  }

  private static void states() {
    Pagekernel x = Checks.begun("F ( ) { b = fork ( ) ; if ( b ) get ( & d ) ; exit ( 4 ) ; }", 0);
    Checks.due("READY", x.state(1), 1);
    x.run(200);
    Checks.due("WAITING", x.state(1), 2);
    Checks.due("ENDED", x.state(2), 3);
    Checks.due("SLOT of who is ENDED", x.ofProcess(2, 11), 1);
    Checks.due("CODE", x.ofProcess(2, 7), 4);
    Checks.due("parent", x.ofProcess(2, 0), 1);
    Checks.due("house(0)", x.house(0), 2);
    Checks.due("house(1)", x.house(1), 0);
    for (int pid : new int[] {0, -1, 3, 60, 61, Integer.MAX_VALUE, Integer.MIN_VALUE}) {
      Checks.due("state(" + pid + ")", x.state(pid), 0);
      Checks.refused(x, "ofProcess", Checks.INDEX, () -> x.ofProcess(pid, 12));
      Checks.refused(x, "can", Checks.INDEX, () -> x.can(pid));
      Checks.refused(x, "where", Checks.INDEX, () -> x.where(pid));
      Checks.refused(x, "cell", Checks.INDEX, () -> x.cell(pid, 8));
      Checks.refused(x, "local", Checks.INDEX, () -> x.local(pid, 0, 9));
      Checks.refused(x, "function", Checks.INDEX, () -> x.function(pid, 0));
      Checks.refused(x, "descriptor", Checks.INDEX, () -> x.descriptor(pid, 6));
      Checks.refused(x, "children", Checks.INDEX, () -> x.children(pid));
      Checks.refused(x, "waitsIn", Checks.INDEX, () -> x.waitsIn(pid));
      Checks.refused(x, "handler", Checks.INDEX, () -> x.handler(pid, 3));
    }
    for (int wrong : new int[] {-1, 12, Integer.MAX_VALUE}) {
      Checks.refused(x, "ofProcess(1, " + wrong + ")", Checks.ARGUMENT, () -> x.ofProcess(1, wrong));
    }
    Checks.due("can(1)", x.can(1), false);
    Checks.due("can(2)", x.can(2), false);
    x.give(5);
    Checks.due("can(1)", x.can(1), true);
    Checks.due("where of who WAITS", x.where(1), 14);
    Checks.due("where of who is ENDED", x.where(2), -1);
    Checks.due("waitsIn(1)", x.waitsIn(1), Checks.token("get"));
    Checks.due("waitsIn(2)", x.waitsIn(2), -1);
    Checks.due("children", x.children(1), "2");
    Checks.due("children", x.children(2), "");
    x.run(200);
    Checks.due("GONE", x.state(1), 4);
    Checks.due("its ENDED child too", x.state(2), 4);
    Checks.due("parent then", x.ofProcess(2, 0), 0);
    Checks.due("SLOT then", x.ofProcess(2, 11), -1);
    Checks.due("where then", x.where(1), -1);
    Checks.due("can then", x.can(1), false);
    Checks.due("house(0)", x.house(0), 0);
  }

  /** What is told of one that has ended is what it was then. */
  private static void endings() {
    Pagekernel x = Checks.begun("G ( a ) { grow ( 5 ) ; pipe ( x ) ; on ( 1 , 1 ) ; if ( a == 1 ) exit ( 9 ) ; if ( a == 2 ) a = 1 / 0 ; get ( y ) ; } "
        + "F ( ) { int b ; b = 1 ; while ( b < 4 ) { a = fork ( ) ; if ( ! a ) G ( b ) ; b = b + 1 ; } b = get ( y ) ; return b ; }", 0);
    x.run(200);
    int[][] due = {{1, 2, 37, 0, 0, 0, -1, 9, 1, 0, 0, 1}, {1, 2, 37, 0, 0, 0, -1, 202, 3, 0, 0, 2}, {1, 2, 37, 0, 0, 0, -1, 0, 0, 2, 0, 3}};
    for (int pid = 2; pid <= 4; pid++) {
      for (int what = 0; what <= 11; what++) {
        if (what != 6) {
          Checks.due("ofProcess(" + pid + ", " + what + ")", x.ofProcess(pid, what), due[pid - 2][what]);
        }
      }
    }
    Checks.due("states", "" + x.state(2) + x.state(3) + x.state(4), "332");
    Checks.due("cell of who is ENDED", x.cell(2, 8), "-");
    Checks.due("local of who is ENDED", x.local(2, 1, 0), "-");
    Checks.due("function of who is ENDED", x.function(2, 0), -1);
    Checks.due("descriptor of who is ENDED", x.descriptor(2, 0), "-");
    Checks.due("handler of who is ENDED", x.handler(2, 1), -1);
    Checks.due("handler of who WAITS", x.handler(4, 1), 1);
    Checks.due("children", x.children(1), "2 3 4");
    Checks.due("TICKS with the last one", x.ofProcess(2, 6), 7);
    x.send(4, 2);
    x.run(200);
    // its CALL told -1, and then it had the signal
    Checks.due("by a signal", x.ofProcess(4, 7), 102);
    Checks.due("WHY by a signal", x.ofProcess(4, 8), 5);
    Checks.due("the rest of it", x.state(4), 3);
    x.give(77);
    x.run(200);
    Checks.due("the first one", x.state(1), 4);
    Checks.due("returned", x.ofProcess(1, 7), 1);
    Checks.due("parents", x.ofProcess(2, 0) + x.ofProcess(3, 0) + x.ofProcess(4, 0), 0);
    Checks.due("states", "" + x.state(2) + x.state(3) + x.state(4), "444");
    Checks.due("BREAK still", x.ofProcess(2, 2), 37);
    Checks.due("children", x.children(1), "");
    Checks.due("PROGRAM still", x.ofProcess(2, 5), 0);
  }

  private static void looking() {
    Pagekernel x = Checks.begun("G ( d , c ) { int h ; h = 9 ; get ( y ) ; } F ( ) { int a ; a = - 7 ; b = 12 ; x [ 7 ] = 1 ; y [ 7 ] = 2 ; grow ( 2 ) ; y [ 9 ] = 3 ; G ( 4 , 5 ) ; }", 9);
    String[] cells = new String[100];
    for (int address = -1; address < 99; address++) {
      boolean isOwn = address >= 8 && address < 34;
      String want = !isOwn ? "-" : address == 9 ? "12" : address == 23 ? "1" : address == 31 ? "2" : address == 33 ? "3" : "0";
      Checks.due("cell " + address, x.cell(1, address), want);
    }
    Checks.due("cell far off", x.cell(1, Integer.MIN_VALUE) + x.cell(1, Integer.MAX_VALUE), "--");
    String[][] locals = {{"-7", "-", "-", "-", "-", "-", "-", "-"}, {"-", "-", "5", "4", "-", "-", "-", "9"}};
    for (int name = 0; name < 8; name++) {
      Checks.due("local 0 " + name, x.local(1, 0, name), locals[0][name]);
      Checks.due("local 1 " + name, x.local(1, 1, name), locals[1][name]);
      Checks.due("local 2 " + name, x.local(1, 2, name), "-");
      Checks.due("local -1 " + name, x.local(1, -1, name), "-");
      Checks.due("local far off", x.local(1, Integer.MAX_VALUE, name), "-");
    }
    Checks.refused(x, "name 8", Checks.INDEX, () -> x.local(1, 0, 8));
    Checks.refused(x, "name -1", Checks.INDEX, () -> x.local(1, 5, -1));
    Checks.refused(x, "descriptor 6", Checks.INDEX, () -> x.descriptor(1, 6));
    Checks.refused(x, "descriptor -1", Checks.INDEX, () -> x.descriptor(1, -1));
    Checks.refused(x, "handler 0", Checks.ARGUMENT, () -> x.handler(1, 0));
    Checks.refused(x, "handler 3", Checks.ARGUMENT, () -> x.handler(1, 3));
    Checks.due("function far off", x.function(1, Integer.MAX_VALUE), -1);
    Checks.due("functions", x.function(1, 0) * 10 + x.function(1, 1), 1);
    Checks.due("waitsIn", x.waitsIn(1), 75);
    Checks.due("where", x.where(1), 14);
    Checks.due("cells", cells.length, 100);
  }

  private static void descriptors() {
    Pagekernel x = Checks.begun("F ( ) { pipe ( x ) ; a = open ( 3 , 1 ) ; open ( 3 , 0 ) ; write ( a , 6 ) ; unlink ( 3 ) ; open ( 3 , 3 ) ; get ( y ) ; }", 7);
    String[] want = {"r0", "w0", "f-@1:1", "f-@0:0", "f3@0:3", "-"};
    for (int i = 0; i < 6; i++) {
      Checks.due("descriptor " + i, x.descriptor(1, i), want[i]);
    }
    Checks.due("open ones", x.ofProcess(1, 9), 5);
    Checks.due("OPENINGS", x.house(13), 5);
    Checks.due("BODIES", x.house(4), 2);
    Checks.due("FILES", x.house(3), 1);
    Checks.due("PIPES", x.house(2), 1);
    x.remove(3);
    Checks.due("without a name", x.descriptor(1, 4), "f-@0:3");
  }

  public static void main(String[] arguments) {
    starting();
    running();
    turning();
    idling();
    sending();
    states();
    endings();
    looking();
    descriptors();
    Checks.end();
  }
}
