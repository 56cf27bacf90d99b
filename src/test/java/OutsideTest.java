/** Promises 29 to 48: what is told outside, FILES and crashes, inner things, and the house. */
public final class OutsideTest {
  private static final int[] WRONG = {-1, 8, Integer.MAX_VALUE, Integer.MIN_VALUE};

  private static void inputs() {
    Pagekernel x = Checks.begun("F ( ) { while ( 1 ) { get ( & a ) ; put ( a ) ; } }", 0);
    for (int i = 0; i < 10; i++) {
      Checks.due("give", x.give(i * 7 - 20), i + 1);
    }
    Checks.refused(x, "an eleventh", Checks.STATE, () -> x.give(0));
    Checks.due("inputs", x.inputs(), "-20 -13 -6 1 8 15 22 29 36 43");
    Checks.due("house(9)", x.house(9), 10);
    Checks.ticks(x, 5);
    Checks.due("inputs", x.inputs(), "-6 1 8 15 22 29 36 43");
    Checks.due("give", x.give(Integer.MIN_VALUE), 9);
    x.run(200);
    Checks.due("inputs", x.inputs(), "");
    Checks.due("out(0)", x.out(0), "1:-20 1:-13 1:-6 1:1 1:8 1:15 1:22 1:29 1:36 1:43 1:-2147483648");
    Checks.due("out(10)", x.out(10), "1:-2147483648");
    Checks.due("out(11)", x.out(11), "");
    Checks.due("out far off", x.out(Integer.MAX_VALUE), "");
    Checks.refused(x, "out(-1)", Checks.ARGUMENT, () -> x.out(-1));
    Checks.refused(x, "out far below", Checks.ARGUMENT, () -> x.out(Integer.MIN_VALUE));
    Pagekernel y = Checks.begun("F ( ) { while ( a < 5 * 5 ) { put ( a ) ; a = a + 1 ; } }", 0);
    y.run(200);
    Checks.due("twenty at most", y.out(3), "1:3 1:4 1:5 1:6 1:7 1:8 1:9 1:10 1:11 1:12 1:13 1:14 1:15 1:16 1:17 1:18 1:19 1:20 1:21 1:22");
    Checks.due("house(10)", y.house(10), 25);
    Pagekernel z = Checks.begun("F ( ) { while ( 1 ) put ( 19 ) ; }", 0);
    for (int i = 0; i < 100; i++) {
      z.run(200);
    }
    Checks.due("many OUTS", z.house(10), 10000);
    Checks.due("the last ones", z.out(9998), "1:19 1:19");
  }

  private static void pipes() {
    Pagekernel x = Checks.begun("F ( ) { pipe ( x ) ; write ( 1 , - 3 ) ; write ( 1 , 4 ) ; fork ( ) ; close ( 0 ) ; get ( y ) ; }", 0);
    x.run(30);
    Checks.due("inPipe", x.inPipe(0), "-3 4");
    Checks.due("cells", x.ofPipe(0, 0), 2);
    Checks.due("reading", x.ofPipe(0, 1), 0);
    Checks.due("writing", x.ofPipe(0, 2), 2);
    Checks.due("not there", x.inPipe(1) + x.ofPipe(1, 0) + x.ofPipe(1, 1) + x.ofPipe(1, 2), "--1-1-1");
    for (int wrong : new int[] {-1, 4, Integer.MAX_VALUE}) {
      Checks.refused(x, "ofPipe(" + wrong + ")", Checks.INDEX, () -> x.ofPipe(wrong, 9));
      Checks.refused(x, "inPipe(" + wrong + ")", Checks.INDEX, () -> x.inPipe(wrong));
    }
    Checks.refused(x, "ofPipe(0, 3)", Checks.ARGUMENT, () -> x.ofPipe(0, 3));
    Checks.refused(x, "ofPipe(0, -1)", Checks.ARGUMENT, () -> x.ofPipe(0, -1));
    Checks.refused(x, "ofPipe(1, 3)", Checks.ARGUMENT, () -> x.ofPipe(1, 3));
    x.send(1, 3);
    x.send(2, 3);
    x.run(30);
    Checks.due("gone with them", x.inPipe(0), "-");
    Pagekernel y = Checks.begun("F ( ) { pipe ( x ) ; close ( 0 ) ; close ( 1 ) ; pipe ( x ) ; get ( y ) ; }", 0);
    y.run(30);
    Checks.due("a new one is empty", y.inPipe(0), "");
  }

  private static void storing() {
    Pagekernel x = new Pagekernel();
    Checks.due("store", x.store(7, -1), 1);
    Checks.due("two ACTS", x.house(5), 2);
    Checks.due("store", x.store(7, Integer.MAX_VALUE), 2);
    Checks.due("one ACT", x.house(5), 3);
    Checks.due("inFile", x.inFile(7), "-1 2147483647");
    Checks.due("size", x.size(7), 2);
    for (int i = 3; i <= 16; i++) {
      Checks.due("store", x.store(7, i), i);
    }
    long before = x.digest();
    Checks.due("a 17th", x.store(7, 1), -9);
    Checks.due("nothing changed", x.digest(), before);
    for (int wrong : WRONG) {
      Checks.refused(x, "store", Checks.INDEX, () -> x.store(wrong, 1));
      Checks.refused(x, "remove", Checks.INDEX, () -> x.remove(wrong));
      Checks.refused(x, "size", Checks.INDEX, () -> x.size(wrong));
      Checks.refused(x, "inFile", Checks.INDEX, () -> x.inFile(wrong));
    }
    Checks.due("remove", x.remove(7), 1);
    Checks.due("an ACT", x.house(5), 18);
    Checks.due("remove again", x.remove(7), 0);
    Checks.due("no ACT", x.house(5), 18);
    Checks.due("size", x.size(7), -1);
    Checks.due("inFile", x.inFile(7), "-");
    Checks.due("would(17)", x.would(17), "7=-1,2147483647,3,4,5,6,7,8,9,10,11,12,13,14,15,16;");
    Checks.due("would(18)", x.would(18), "");
    // the 20th ACT is SYNCED at once, between the two of a store()
    Checks.due("store", x.store(0, 5), 1);
    Checks.due("0 then", x.house(5), 0);
    Checks.due("would(0)", x.would(0), "0=5;");
    Pagekernel y = new Pagekernel();
    for (int i = 0; i < 10; i++) {
      y.store(0, i);
      y.store(1, i);
    }
    Checks.due("22 ACTS", y.house(5), 2);
    Checks.due("would(0)", y.would(0), "0=0,1,2,3,4,5,6,7,8;1=0,1,2,3,4,5,6,7,8;");
    Checks.due("would(1)", y.would(1), "0=0,1,2,3,4,5,6,7,8,9;1=0,1,2,3,4,5,6,7,8;");
    Checks.due("sync", y.sync(), 2);
    Checks.due("sync", y.sync(), 0);
    // the first of the two ACTS of a store() may be the 20th
    Pagekernel z = new Pagekernel();
    z.store(0, 0);
    for (int i = 0; i < 15; i++) {
      z.store(0, 1);
    }
    z.remove(5);
    z.store(1, 3);
    Checks.due("19 ACTS", z.house(5), 19);
    z.store(2, 9);
    Checks.due("the cell is PENDING alone", z.house(5), 1);
    Checks.due("its FILE is SYNCED", z.would(0), "0=0,1,1,1,1,1,1,1,1,1,1,1,1,1,1,1;1=3;2=;");
    Checks.due("house(3)", z.house(3), 3);
    Checks.due("house(4)", z.house(4), 3);
  }

  /** Some FILES, SYNCED and not, by a PROCESS and by nobody. */
  private static Pagekernel busy() {
    Pagekernel x = Checks.with("F ( ) { open ( 4 , 3 ) ; write ( 0 , 6 ) ; unlink ( 4 ) ; write ( 0 , 7 ) ; open ( 4 , 1 ) ; write ( 1 , 8 ) ; open ( 1 , 2 ) ; write ( 2 , 9 ) ; get ( y ) ; }");
    x.store(1, 1);
    x.store(1, 2);
    x.store(4, 3);
    x.sync();
    x.store(2, 4);
    x.start(0);
    x.give(3);
    x.run(8);
    x.give(5);
    x.quantum(4);
    return x;
  }

  private static final String[] BEHIND = {"1=1,2;4=3;", "1=1,2;2=;4=3;", "1=1,2;2=4;4=3;", "1=1,2;2=4;4=3,6;", "1=1,2;2=4;", "1=1,2;2=4;", "1=1,2;2=4;4=;", "1=1,2;2=4;4=8;",
    "1=;2=4;4=8;", "1=9;2=4;4=8;"};

  private static void crashing() {
    for (int n = 0; n < BEHIND.length; n++) {
      for (int torn = 0; torn < 2; torn++) {
        Pagekernel x = busy();
        Checks.due("PENDING", x.house(5), 9);
        Checks.due("would(" + n + ")", x.would(n), BEHIND[n]);
        Checks.due("would(9)", x.would(9), BEHIND[9]);
        int files = BEHIND[n].split(";").length;
        Checks.due("crash(" + n + ")", x.crash(n, torn == 1), files);
        Checks.due("FILES behind crash(" + n + ")", x.would(0), BEHIND[n]);
        Checks.due("FILES", x.house(3), files);
        Checks.due("BODIES", x.house(4), files);
        Checks.due("PENDING", x.house(5), 0);
        Checks.due("crashes", x.house(11), 1);
        Checks.due("INPUTS", x.inputs(), "");
        Checks.due("OPENINGS", x.house(13), 0);
        Checks.due("state", x.state(1), 4);
        Checks.due("CODE and WHY", x.ofProcess(1, 7) * 10 + x.ofProcess(1, 8), 6);
        Checks.due("TURN", x.turn(0) + x.turn(1) + x.turn(2), -2);
        Checks.due("QUANTUM stays", x.house(7), 4);
        Checks.due("isSound", x.isSound(), true);
        // what was torn or not there comes never again
        x.store(6, 1);
        Checks.due("would(0)", x.would(0), BEHIND[n]);
        x.crash(1, true);
        Checks.due("FILES behind a second one", x.would(0), BEHIND[n] + "6=;");
      }
    }
    Pagekernel x = busy();
    for (int wrong : new int[] {-1, 10, Integer.MAX_VALUE, Integer.MIN_VALUE}) {
      Checks.refused(x, "crash(" + wrong + ")", Checks.ARGUMENT, () -> x.crash(wrong, true));
      Checks.refused(x, "would(" + wrong + ")", Checks.ARGUMENT, () -> x.would(wrong));
    }
  }

  private static void halting() {
    for (int k = 0; k <= 99; k++) {
      Pagekernel x = busy();
      Checks.due("halted(" + k + ")", x.halted(k), 3);
      Checks.due("FILES", x.would(0), BEHIND[9]);
      Checks.due("PENDING", x.house(5), 0);
      Checks.due("crashes", x.house(11), 1);
      Checks.due("state", x.state(1), 4);
      Checks.due("isSound", x.isSound(), true);
      x.remove(2);
      x.halted(99 - k);
      Checks.due("FILES", x.would(0), "1=9;4=8;");
    }
    Pagekernel x = busy();
    for (int wrong : new int[] {-1, 100, Integer.MAX_VALUE, Integer.MIN_VALUE}) {
      Checks.refused(x, "halted(" + wrong + ")", Checks.ARGUMENT, () -> x.halted(wrong));
    }
  }

  private static void crashOfMany() {
    Pagekernel x = Checks.begun("F ( ) { grow ( 2 ) ; pipe ( x ) ; a = fork ( ) ; b = fork ( ) ; if ( a && b ) put ( 5 ) ; if ( b == 0 ) exit ( 8 ) ; get ( y ) ; }", 0);
    x.run(100);
    x.give(1);
    Checks.due("states before", "" + x.state(1) + x.state(2) + x.state(3) + x.state(4), "2233");
    x.crash(0, false);
    for (int pid = 1; pid <= 4; pid++) {
      Checks.due("state", x.state(pid), 4);
      Checks.due("parent", x.ofProcess(pid, 0), 0);
      Checks.due("FRAMES", x.ofProcess(pid, 1), 1);
      Checks.due("BREAK", x.ofProcess(pid, 2), 34);
      Checks.due("SLOT", x.ofProcess(pid, 11), -1);
      Checks.due("WHY", x.ofProcess(pid, 8), pid < 3 ? 6 : 1);
      Checks.due("CODE", x.ofProcess(pid, 7), pid < 3 ? 0 : 8);
    }
    Checks.due("PIPES", x.house(2), 0);
    Checks.due("OUTS stay", x.out(0), "1:5");
    Checks.due("house(0)", x.house(0), 0);
    int ticks = x.house(6);
    Checks.due("run", x.run(9), 0);
    Checks.due("TICKS stay", x.house(6), ticks);
    Checks.due("the next PID", x.start(0), 5);
    Checks.due("SLOT", x.ofProcess(5, 11), 0);
    Checks.due("its turn", x.step(), 5);
    // TURN is NONE: from SLOT 0 on
    Pagekernel y = Checks.with("F ( ) { while ( 1 ) ; }");
    y.start(0);
    y.start(0);
    y.run(4);
    y.crash(0, true);
    y.start(0);
    y.start(0);
    Checks.due("turn", y.turn(0) * 100 + y.turn(1) * 10 + y.turn(2), -97);
  }

  private static void innerThings() {
    Pagekernel x = Checks.begun("F ( ) { while ( 1 ) ; }", 1);
    Checks.due("frames", x.frames(8), 12);
    Checks.due("frames", x.frames(40), 8);
    Checks.due("frames", x.frames(9), 40);
    Checks.due("level", x.level(2), 0);
    Checks.due("level", x.level(1), 2);
    Checks.due("level", x.level(0), 1);
    for (int wrong : new int[] {7, 41, -1, Integer.MAX_VALUE}) {
      Checks.refused(x, "frames(" + wrong + ")", Checks.ARGUMENT, () -> x.frames(wrong));
      Checks.refused(x, "level(" + wrong + ")", Checks.ARGUMENT, () -> x.level(wrong));
    }
    Checks.refused(x, "level(3)", Checks.ARGUMENT, () -> x.level(3));
    Checks.due("frames", x.frames(9), 9);
    Checks.due("press", x.press(1), 1);
    Checks.due("press", x.press(2), 0);
    Checks.due("press", x.press(0), 0);
    Checks.due("press", x.press(-1), 0);
    Checks.due("press", x.press(Integer.MAX_VALUE), 0);
    x.send(1, 3);
    x.run(1);
    Checks.due("press", x.press(1), 0);
    Checks.due("knock", x.knock(), 1);
    Checks.due("knock", x.knock(), 2);
    Checks.due("house(12)", x.house(12), 2);
    for (int wrong : new int[] {-1, 14, Integer.MAX_VALUE, Integer.MIN_VALUE}) {
      Checks.refused(x, "house(" + wrong + ")", Checks.ARGUMENT, () -> x.house(wrong));
    }
  }

  private static final String PAGES = "F ( ) { int a ; grow ( 8 * 8 ) ; a = 8 ; while ( a < 12 * 8 ) { * a = a * 3 ; a = a + 1 ; } b = fork ( ) ; c = fork ( ) ; a = 14 ; "
      + "while ( a < 12 * 8 ) { * a = * a + b * 16 + c * 4 ; a = a + 5 ; } get ( x + 5 ) ; }";

  /** Far more pages than the machine has, shared and stored to: no answer depends on FRAMES, LEVEL or what is pressed. */
  private static void pages() {
    long[] digests = new long[6];
    for (int way = 0; way < digests.length; way++) {
      Pagekernel x = Checks.with(PAGES);
      x.frames(way % 2 == 0 ? 8 : 40);
      x.level(way % 3);
      x.start(0);
      for (int i = 0; i < 40; i++) {
        x.run(19);
        if (way > 1) {
          x.press(1 + i % 4);
        }
        if (way > 3) {
          x.frames(8 + i % 33);
        }
      }
      Checks.due("four PROCESSES", x.house(8), 4);
      Checks.due("all WAIT", x.house(1), 0);
      for (int pid = 1; pid <= 4; pid++) {
        int b = Integer.parseInt(x.cell(pid, 9));
        int c = Integer.parseInt(x.cell(pid, 10));
        for (int address = 11; address < 96; address++) {
          int more = address >= 14 && (address - 14) % 5 == 0 ? b * 16 + c * 4 : 0;
          Checks.due("cell " + address + " of " + pid, x.cell(pid, address), String.valueOf(address * 3 + more));
        }
      }
      Checks.due("isSound", x.isSound(), true);
      digests[way] = x.digest();
      Checks.due("digest", digests[way], digests[0]);
      Checks.due("digest again", x.digest(), digests[0]);
    }
  }

  private static Pagekernel samplesFor(int rounds, boolean isCrashed) {
    Pagekernel x = new Pagekernel();
    for (int k = 0; k < 4; k++) {
      x.sample(k, new int[] {3, 7, 5, 4}[k]);
      x.start(k);
    }
    x.start(3);
    Checks.write(x, 0, "F ( ) { break ; }");
    for (int i = 0; i < rounds; i++) {
      x.run(3);
      x.knock();
      if (i % 7 == 0) {
        x.send(i % 5 + 1, i % 2 + 1);
      }
    }
    if (isCrashed) {
      x.crash(x.house(5) / 2, true);
    }
    return x;
  }

  private static void digests() {
    Checks.due("digest of a new object", new Pagekernel().digest(), Checks.digestOf(Pagekernel::new));
    for (int i = 0; i < 60; i++) {
      int rounds = i;
      Checks.due("digest " + i, samplesFor(i, false).digest(), Checks.digestOf(() -> samplesFor(rounds, false)));
      Checks.due("digest behind a crash", samplesFor(i, true).digest(), Checks.digestOf(() -> samplesFor(rounds, true)));
    }
  }

  public static void main(String[] arguments) {
    inputs();
    pipes();
    storing();
    crashing();
    halting();
    crashOfMany();
    innerThings();
    pages();
    digests();
    Checks.end();
  }
}
