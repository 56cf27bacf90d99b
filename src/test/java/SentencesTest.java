/** The sentences that no other test names: what is told by most calls, at each moment of a small machine. */
public final class SentencesTest {
  private static final String LOOP = "F ( ) { while ( 1 ) ; }";

  private static void none() {
    Checks.sentence("NONE is -1.");
    Pagekernel x = Checks.with("F ( ) { }");
    Checks.due("error()", x.error(0), -1);
    Checks.due("isLocal()", x.isLocal(0, 1, 0) + x.isLocal(1, 0, 0), -2);
    Checks.due("step()", x.step(), -1);
    Checks.due("turn()", x.turn(0) + x.turn(2), -2);
    Checks.due("ofPipe()", x.ofPipe(0, 0) + x.ofPipe(1, 1) + x.ofPipe(3, 2), -3);
    Checks.due("size()", x.size(0) + x.size(7), -2);
    Checks.due("one that is GONE", x.start(0) + x.state(1), 5);
    Checks.due("where(), function(), waitsIn()", x.where(1) + x.function(1, 0) + x.waitsIn(1), -3);
    Checks.due("handler(), SLOT", x.handler(1, 1) + x.handler(1, 2) + x.ofProcess(1, 11), -3);
  }

  // ---- 1. Texts

  private static void texts() {
    Checks.sentence("TOKENS by numbers: 0 to 19 NUMBERS, 0 to 19; 20 to 27 NAMES, a to h; 28 and 29 ROWS, x and y; 30 to 33 FUNCTIONS, F, G, H, I; then, in this order, from 34 on: int if else while break return { } ( ) [ ] , ; "
        + "= || && == != < > + - * / % ! & and, from 62 on, SERVICES: fork exec wait exit pipe read write open close unlink kill on put get grow pid pause sync (79).");
    Checks.sentence("Returns how many TOKENS its TEXT has.");
    Checks.sentence("Returns its TEXT, with a blank between two signs.");
    Checks.sentence("Returns the TOKEN there.");
    StringBuilder due = new StringBuilder();
    Pagekernel x = new Pagekernel();
    for (int token = 0; token < 80; token++) {
      Checks.due("length(2)", x.length(2), token);
      x.type(2, token, -1, -1, -1, -1);
      due.append(token > 0 ? " " : "").append(Checks.sign(token));
      Checks.due("text(2)", x.text(2), due.toString());
    }
    for (int place = 0; place < 80; place++) {
      Checks.due("token(2, " + place + ")", x.token(2, place), place);
    }
    Checks.sentence("Returns the place of its ERROR; NONE.");
    Pagekernel y = new Pagekernel();
    String[] texts = {"F ( ) { ; }", "F ( ) { ; ; ) }", "F ( ) { ; break ; }", "F ( ) { ; ; ; int a ; int a ; }"};
    int[] places = {-1, 6, 5, 11};
    for (int program = 0; program < 4; program++) {
      Checks.write(y, program, texts[program]);
    }
    for (int program = 3; program >= 0; program--) {
      Checks.due("error(" + program + ")", y.error(program), places[program]);
    }
  }

  // ---- 2. Memory

  private static void rows() {
    Checks.sentence("A NAME is what its cell has; ROW the ADDRESS of its first cell; ROW [ E ] the cell with that ADDRESS plus E;");
    Checks.due("ROWS", Checks.outs("F ( ) { put ( x ) ; put ( y ) ; put ( x + 1 ) ; put ( & a ) ; put ( & h ) ; }"), "1:16 1:24 1:17 1:8 1:15");
    for (int address = 6; address <= 97; address++) {
      for (String row : new String[] {"x", "y"}) {
        int first = row.equals("x") ? 16 : 24;
        Pagekernel x = Checks.begun("F ( ) { grow ( 8 * 8 ) ; get ( & a ) ; " + row + " [ a ] = 19 - a ; b = " + row + " [ a ] ; get ( y ) ; }", 0);
        x.give(address - first);
        Checks.ticks(x, 3);
        boolean isOwn = address >= 8 && address < 96;
        Checks.due("stored to " + address, x.cell(1, address) + "/" + x.ofProcess(1, 7), isOwn ? 19 - address + first + "/0" : "-/201");
        if (isOwn && address != 8) {
          Checks.ticks(x, 1);
          Checks.due("read there", x.cell(1, 9), "" + (19 - address + first));
        }
      }
    }
    Checks.due("a NAME in its cell", Checks.outs("F ( ) { * 8 = 3 ; * 15 = 4 ; put ( a ) ; put ( h ) ; a = 5 ; put ( * 8 ) ; put ( x [ - 8 ] ) ; put ( * & a ) ; }"), "1:3 1:4 1:5 1:5 1:5");
    Checks.sentence("Returns what its cell has;");
    Pagekernel y = Checks.begun("F ( ) { grow ( 8 * 8 ) ; a = 9 ; while ( a < 8 * 12 ) { a = a + 1 ; * ( a - 1 ) = - a ; } get ( y ) ; }", 2);
    Checks.due("one behind the other", y.cell(1, 8) + y.cell(1, 9) + y.cell(1, 95), "900");
    y.run(200);
    y.run(200);
    for (int address = 9; address < 96; address++) {
      Checks.due("cell(1, " + address + ")", y.cell(1, address), "" + (-address - 1));
    }
    for (int address : new int[] {Integer.MIN_VALUE, -1, 0, 7, 96, 97, Integer.MAX_VALUE}) {
      Checks.due("cell(1, " + address + ")", y.cell(1, address), "-");
    }
  }

  // ---- 3. Processes and ticks

  private static void statesAndRests() {
    Checks.sentence("STATE: 1 READY, 2 WAITING, 3 ENDED (its parent has not waited for it; it has its SLOT still), 4 GONE. It rests ahead of a STATEMENT that begins next, or in a CALL of a SERVICE that WAITS.");
    String text = "F ( ) { a = fork ( ) ; if ( a ) { get ( y ) ; wait ( 0 ) ; get ( y ) ; } exit ( 1 ) ; }";
    Pagekernel x = Checks.begun(text, 0);
    int get = Checks.many("F ( ) { a = fork ( ) ; if ( a ) {");
    String[] due = {"10/4/-1", "11/10/10", "11/" + get + "/10", "21/" + get + "/10", "21/" + get + "/" + (get + 16), "23/" + get + "/-1"};
    for (int i = 0; i < due.length; i++) {
      Checks.due("behind " + i + " TICKS", "" + x.state(1) + x.state(2) + "/" + x.where(1) + "/" + (x.state(2) == 0 ? -1 : x.where(2)), due[i]);
      x.step();
    }
    Checks.due("none is left", x.step(), -1);
    x.give(1);
    Checks.due("by an INPUT", x.step() + "/" + x.state(1) + x.state(2) + "/" + x.where(1), "1/13/" + (get + 5));
    Checks.due("it was waited for", x.step() + "/" + x.state(1) + x.state(2) + "/" + x.where(1), "1/14/" + (get + 10));
    Checks.due("WAITING again", x.step() + "/" + x.state(1) + "/" + x.where(1), "1/2/" + (get + 10));
    Checks.sentence("(a) if it is READY and a signal is to be taken, that is taken (section 5);");
    Pagekernel y = Checks.begun("I ( b ) { a = 5 ; } F ( ) { on ( 1 , 3 ) ; a = 7 ; get ( y ) ; }", 1);
    int rest = y.where(1);
    y.send(1, 1);
    Checks.ticks(y, 1);
    Checks.due("just that", y.cell(1, 8) + "/" + y.ofProcess(1, 1) + y.ofProcess(1, 4) + "/" + y.where(1), "0/21/5");
    Checks.ticks(y, 1);
    Checks.due("then its STATEMENT", y.cell(1, 8) + "/" + y.ofProcess(1, 1) + y.ofProcess(1, 4) + "/" + (y.where(1) - rest), "5/10/0");
    Checks.ticks(y, 1);
    Checks.due("then that ahead of which it rested", y.cell(1, 8), "7");
    Checks.sentence("a CALL of a SERVICE reckons all E, then does it, or WAITS;");
    String[] wrong = {"open ( 1 , 1 / 0 ) ;", "open ( * 7 , 1 / 0 ) ;", "write ( 1 , * 7 ) ;", "write ( 1 / 0 , * 7 ) ;", "kill ( 1 , 1 % 0 ) ;", "read ( 1 / 0 , 7 ) ;", "put ( * 7 ) ;", "pipe ( 1 / 0 ) ;"};
    int[] codes = {202, 201, 201, 202, 202, 202, 201, 202};
    for (int i = 0; i < wrong.length; i++) {
      Pagekernel z = Checks.begun("F ( ) { pipe ( x ) ; " + wrong[i] + " }", 1);
      z.run(9);
      Checks.due("nothing is done by " + wrong[i], z.ofProcess(1, 7) + z.out(0) + z.house(3), codes[i] + "0");
    }
    Pagekernel w = Checks.begun("F ( ) { pipe ( x ) ; while ( a < 4 ) { a = a + 1 ; write ( a / a , a ) ; } a = fork ( ) ; if ( ! a ) { get ( y ) ; read ( 0 , & c ) ; get ( y ) ; } write ( x [ 1 ] , a * 5 + 1 ) ; get ( y ) ; }", 0);
    w.run(90);
    Checks.due("it WAITS with what was reckoned", w.waitsIn(1) + "/" + w.inPipe(0), Checks.token("write") + "/1 2 3 4");
    w.give(0);
    w.run(90);
    Checks.due("with that", w.inPipe(0), "2 3 4 11");
  }

  private static void toldOfProcesses() {
    Checks.sentence("`what`: 0 parent, 1 FRAMES, 2 BREAK, 3 its signals (1, 2, 4 together), 4 the signal whose handler is HELD (0), 5 PROGRAM it has, 6 TICKS it had, 7 CODE, 8 WHY (7 and 8: 0 till it ends), 9 open DESCRIPTORS, "
        + "10 IDLE, 11 SLOT (NONE, if GONE)");
    Pagekernel x = new Pagekernel();
    Checks.write(x, 2, LOOP);
    Checks.write(x, 3, "I ( a ) { while ( 1 ) ; } F ( ) { b = fork ( ) ; if ( b ) while ( 1 ) ; grow ( 7 ) ; pipe ( x ) ; on ( 2 , 3 ) ; while ( 1 ) ; }");
    x.start(2);
    x.start(3);
    x.run(24);
    x.send(3, 2);
    x.run(9);
    x.send(3, 2);
    x.send(3, 1);
    int[] due = {2, 2, 39, 3, 2, 3, 0, 0, 0, 2, 0, 2};
    int all = 0;
    for (int pid = 1; pid <= 3; pid++) {
      all += x.ofProcess(pid, 6);
    }
    Checks.due("all TICKS are those of each", x.house(6), all);
    for (int i = 0; i < 9; i++) {
      int ticks = x.ofProcess(3, 6);
      int idle = x.ofProcess(3, 10);
      boolean isOwn = x.step() == 3;
      due[6] = ticks + (isOwn ? 1 : 0);
      due[10] = isOwn ? 0 : idle + 1;
      for (int what = 0; what <= 11; what++) {
        Checks.due("ofProcess(3, " + what + ")", x.ofProcess(3, what), due[what]);
      }
    }
    x.send(3, 3);
    for (int i = 0; i < 9 && x.state(3) == 1; i++) {
      x.step();
    }
    int[] ended = {2, 2, 39, 0, 0, 3, x.ofProcess(3, 6), 103, 5, 0, 0, 2};
    for (int what = 0; what <= 11; what++) {
      Checks.due("ofProcess(3, " + what + ") of one that is ENDED", x.ofProcess(3, what), ended[what]);
    }
  }

  private static void ticks() {
    Checks.sentence("One TICK.");
    Checks.sentence("Returns how many there were.");
    Pagekernel x = Checks.with("F ( ) { ; ; ; }");
    x.start(0);
    x.start(0);
    int[] due = {1, 1, 1, 2, 2, 2, -1};
    for (int i = 0; i < due.length; i++) {
      Checks.due("step()", x.step(), due[i]);
      Checks.due("house(6)", x.house(6), Math.min(i + 1, 6));
    }
    Pagekernel y = Checks.with("F ( ) { ; ; ; }");
    y.start(0);
    y.start(0);
    Checks.due("run()", y.run(1) + "/" + y.run(3) + "/" + y.run(5) + "/" + y.run(1), "1/3/2/0");
    Checks.sentence("Returns that.");
    Pagekernel z = Checks.begun(LOOP, 5);
    Checks.due("turn()", z.turn(0) + "/" + z.turn(1) + "/" + z.turn(2), "1/2/1");
    Checks.due("house(6)", z.house(6), 5);
  }

  // ---- what is told outside

  private static void pipes() {
    Checks.sentence("`what`: 0 how many cells it holds, 1 how many DESCRIPTORS lead to its reading end, 2 to its writing end");
    Pagekernel x = Checks.begun("F ( ) { pipe ( x ) ; pipe ( x ) ; fork ( ) ; write ( 3 , 1 ) ; close ( 1 ) ; fork ( ) ; close ( 2 ) ; get ( y ) ; }", 0);
    x.run(90);
    Checks.due("four PROCESSES", x.house(0), 4);
    Checks.due("PIPE 0", x.ofPipe(0, 0) + " " + x.ofPipe(0, 1) + " " + x.ofPipe(0, 2), "0 4 0");
    Checks.due("PIPE 1", x.ofPipe(1, 0) + " " + x.ofPipe(1, 1) + " " + x.ofPipe(1, 2), "2 0 4");
    Checks.due("none", x.ofPipe(2, 0) + " " + x.ofPipe(3, 1) + " " + x.ofPipe(2, 2), "-1 -1 -1");
  }

  private static void files() {
    Checks.sentence("Returns 1 if it was there, otherwise 0.");
    Checks.sentence("Returns how many ACTS were PENDING.");
    Checks.sentence("Returns how many FILES there are.");
    for (int n = 0; n <= 6; n++) {
      Pagekernel x = new Pagekernel();
      x.store(0, 5);
      x.store(1, 5);
      Checks.due("sync()", x.sync() + "/" + x.sync(), "4/0");
      Checks.due("remove()", x.remove(0) + "/" + x.remove(0) + "/" + x.remove(7), "1/0/0");
      x.store(6, 1);
      x.store(7, 1);
      Checks.due("remove() of a new one", x.remove(6) + "/" + x.remove(6), "1/0");
      int[] files = {2, 1, 2, 2, 3, 3, 2};
      String[] would = {"0=5;1=5;", "1=5;", "1=5;6=;", "1=5;6=1;", "1=5;6=1;7=;", "1=5;6=1;7=1;", "1=5;7=1;"};
      Checks.due("would(" + n + ")", x.would(n), would[n]);
      Checks.due("crash(" + n + ")", x.crash(n, n % 2 == 1), files[n]);
      Checks.due("house(3)", x.house(3), files[n]);
      Checks.due("none is PENDING", x.sync(), 0);
      Checks.due("store() and sync()", x.store(5, n) + "/" + x.sync(), "1/2");
      x.store(5, n);
      Checks.due("halted(" + n + ")", x.halted(n), files[n] + 1);
      Checks.due("what it was", x.inFile(5), n + " " + n);
    }
  }

  // ---- inner things, the house

  /** Each TICK of each of these, with pages going out and coming in. */
  private static void sound() {
    Checks.sentence("All pages of a PROCESS go out.");
    Checks.sentence("Returns whether all of this is so: each page of the machine's memory is counted as often as it is used, none that two use can be stored to; each cell of MEMORY of each PROCESS, if all its pages went out and "
        + "came in again, is what it was; what is on the disk, read anew, makes FILES of the last SYNC, and with the PENDING ACTS those of now; IDLE is never above 50; code of LEVEL 2 of each TEXT without ERROR has no more steps "
        + "than that of LEVEL 0; each open DESCRIPTOR leads to an OPENING, and PIPES are there just as they are led to.");
    String[] texts = {"F ( ) { grow ( 8 * 8 ) ; while ( a < 5 ) { b = fork ( ) ; if ( ! b ) { while ( c < 8 * 8 ) { x [ c ] = a ; c = c + 8 ; } exit ( a ) ; } a = a + 1 ; } while ( b > 0 ) b = wait ( y ) ; }",
      "F ( ) { pipe ( x ) ; while ( a < 4 ) { b = fork ( ) ; open ( a , 1 + a % 3 ) ; write ( 2 , b ) ; write ( 1 , a ) ; read ( 0 , y + a ) ; close ( a ) ; unlink ( b ) ; a = a + 1 ; } }",
      "G ( a ) { int b ; b = fork ( ) ; if ( a > 1 && b ) b = G ( a - 1 ) ; x [ a ] = a ; grow ( a ) ; grow ( - a ) ; return b ; } F ( ) { G ( 4 ) ; exec ( 0 ) ; }"};
    for (String text : texts) {
      Pagekernel x = Checks.begun(text, 0);
      x.frames(8);
      for (int i = 0; i < 110; i++) {
        x.step();
        Checks.due("isSound() behind " + i + " TICKS of " + text, x.isSound(), true);
        x.press(1 + i % 6);
        if (i % 10 == 9) {
          x.frames(8 + i % 4);
          x.level(i % 3);
        }
      }
      x.crash(x.house(5) / 2, true);
      Checks.due("isSound() behind a CRASH", x.isSound(), true);
    }
  }

  private static void checksum() {
    Checks.sentence("Computes a checksum. A number d starts with 7605; then d becomes d * 31 + v, which wraps around as a 64-bit integer, for each v in this order (of a text the codes of its signs): house() of 0 to 13; turn() of 0 to 2; "
        + "PROGRAM by PROGRAM error(), kind(); for each PID that was given state(), ofProcess() of 0 to 11, where(), and, if it is READY or WAITING, cell() of 8 to 95, function() and local() (of 0 to 7) FRAME by FRAME, "
        + "descriptor() of 0 to 5; PIPE by PIPE inPipe(); would() of 0 and of all PENDING; the last 20 OUTS by out() (from 0 on, if there are fewer); 1 if isSound(), otherwise 0. Returns d.");
    // a new object: what is told of it by hand
    int[] told = {0, 0, 0, 0, 0, 0, 0, 3, 0, 0, 0, 0, 0, 0, -1, 0, -1, 0, 1, 0, 1, 0, 1, 0, 1, '-', '-', '-', '-', 1};
    long d = 7605;
    for (int v : told) {
      d = d * 31 + v;
    }
    Checks.due("digest() of a new object", new Pagekernel().digest(), d);
    // one PROCESS without cells but 0, that has had no TICK
    Pagekernel x = Checks.with(LOOP);
    x.start(0);
    x.store(2, -7);
    x.knock();
    StringBuilder text = new StringBuilder();
    long e = 7605;
    int[] ahead = {1, 1, 0, 1, 1, 2, 0, 3, 1, 0, 0, 0, 1, 0, -1, 0, 1, -1, 0, 0, 1, 0, 1, 0, 1, 1, 0, 1, 32, 0, 0, 0, 0, 0, 0, 0, 0, 0, 4};
    for (int v : ahead) {
      e = e * 31 + v;
    }
    for (int address = 8; address <= 95; address++) {
      text.append(address < 32 ? '0' : '-');
    }
    text.append((char) 0).append("--------").append("------").append("----").append("2=-7;");
    for (int i = 0; i < text.length(); i++) {
      e = e * 31 + text.charAt(i);
    }
    Checks.due("digest() with a PROCESS and a FILE", x.digest(), e * 31 + 1);
  }

  public static void main(String[] arguments) {
    none();
    texts();
    rows();
    statesAndRests();
    toldOfProcesses();
    ticks();
    pipes();
    files();
    sound();
    checksum();
    Checks.end();
  }
}
