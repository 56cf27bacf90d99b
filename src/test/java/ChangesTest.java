import java.util.ArrayList;
import java.util.List;
import java.util.Map;
import java.util.TreeMap;

/**
 * What each STATEMENT, each SERVICE and each call changes, and that it changes nothing else: all that is told of a machine
 * in which much is going on is compared before and behind it.
 *
 * <p>In that machine PROCESS 1 WAITS for its child 2, which is in a handler (HELD, three FRAMES, signal 1 pending) and has
 * a PIPE with a cell, a FILE, a HEAP, a child 3 that is ENDED, and a child 4 that WAITS in get.
 */
public final class ChangesTest {
  private static final int LEAST = Integer.MIN_VALUE;
  private static final String AHEAD = "I ( a ) { int b ; b = grow ( 9 ) ;";
  private static final String IN_G = "get ( y ) ; } G ( ) { kill ( 2 , 2 ) ;";
  private static final String BEHIND = "h = 1 ; } F ( ) { c = fork ( ) ; if ( c ) wait ( 0 ) ; on ( 2 , 3 ) ; pipe ( x ) ; open ( 3 , 1 ) ; write ( 2 , 5 ) ; write ( 1 , 6 ) ; c = fork ( ) ; "
      + "if ( ! c ) return 4 ; d = fork ( ) ; if ( ! d ) get ( y ) ; G ( ) ; }";

  /** A call that is no answer. */
  private interface Act {
    void on(Pagekernel x);
  }

  private static Pagekernel typed(String pre, String statement) {
    Pagekernel x = new Pagekernel();
    x.store(5, 50);
    x.store(5, 51);
    x.sync();
    x.store(6, 60);
    x.crash(1, true);
    x.knock();
    x.knock();
    x.quantum(4);
    x.level(1);
    x.frames(9);
    Checks.write(x, 0, AHEAD + " " + pre + " " + statement + " " + IN_G + " " + BEHIND);
    Checks.write(x, 1, "I ( b ) { } F ( ) { int h ; get ( y ) ; }");
    Checks.write(x, 2, "F ( ) { break ; }");
    x.start(0);
    return x;
  }

  /** The machine as PROCESS 2 is to have the TICK with which the STATEMENT behind those of pre begins; then it is prepared. */
  private static Checks.Maker busy(String pre, String statement, Act... prepared) {
    Pagekernel scout = typed(pre, statement);
    int place = Checks.many(AHEAD) + Checks.many(pre);
    int ticks = 0;
    while (ticks < 120 && !(scout.state(2) == 1 && scout.where(2) == place && scout.turn(2) == 2)) {
      scout.step();
      ticks++;
    }
    Checks.due("kind with " + pre + " " + statement, scout.kind(0), 0);
    Checks.due("STATES ahead of " + statement, "" + scout.state(1) + scout.state(2) + (pre.contains("kill") || pre.contains("wait") ? "32" : "" + scout.state(3) + scout.state(4)), "2132");
    Checks.due("HELD, FRAMES", scout.ofProcess(2, 4) * 10 + scout.ofProcess(2, 1), 23);
    int due = ticks;
    return () -> {
      Pagekernel x = typed(pre, statement);
      x.run(due);
      x.send(2, 1);
      for (Act act : prepared) {
        act.on(x);
      }
      return x;
    };
  }

  private static Checks.Maker stepped(Checks.Maker maker) {
    return () -> {
      Pagekernel x = maker.make();
      Checks.due("whose TICK", x.step(), 2);
      return x;
    };
  }

  private static TreeMap<String, String> before(Checks.Maker maker) {
    return Told.of(maker);
  }

  /** With the STATEMENT in a TICK of PROCESS 2 just this changes, beside what each TICK changes. */
  private static void does(String pre, String statement, String... changes) {
    Checks.Maker maker = busy(pre, statement);
    TreeMap<String, String> due = Told.ticked(before(maker), 2);
    Told.apply(due, "2 where=" + (Checks.many(AHEAD) + Checks.many(pre) + Checks.many(statement)));
    Told.apply(due, changes);
    Told.same(pre + " " + statement, Told.of(stepped(maker)), due);
  }

  /** The same of a machine that was prepared. */
  private static void does(Checks.Maker maker, String statement, String... changes) {
    TreeMap<String, String> due = Told.ticked(before(maker), 2);
    Told.apply(due, changes);
    Told.same(statement, Told.of(stepped(maker)), due);
  }

  private static String[] with(String[] some, String... more) {
    List<String> all = new ArrayList<>(List.of(some));
    all.addAll(List.of(more));
    return all.toArray(new String[0]);
  }

  // ---- STATEMENTS

  private static void statements() {
    Checks.sentence("(b) if it is READY otherwise, its STATEMENT begins and is done, and it GOES ON:");
    does("", ";");
    does("", "b = 5 ;", "2 local 2 b=5");
    does("", "a = a + b ;", "2 local 2 a=34");
    does("", "h = - 5 ;", "2 cell 15=-5");
    does("", "x [ 3 ] = 4 ;", "2 cell 19=4");
    does("", "x [ y - 9 ] = 4 ;", "2 cell 31=4");
    does("", "* ( y + 16 ) = 1 ;", "2 cell 40=1");
    does("", "if ( 0 ) ;");
    does("", "while ( 0 ) ;");
    does("", "if ( b ) a = 1 ;", "2 where=" + (Checks.many(AHEAD) + 4));
    does("", "while ( b ) a = 1 ;", "2 where=" + (Checks.many(AHEAD) + 4));
    does("", "if ( ! b ) ; else { { a = 1 ; } }", "2 where=" + (Checks.many(AHEAD) + 9));
    does("while ( 1 )", "break ;");
    does("while ( 1 ) {", "a = 3 ; }", "2 local 2 a=3", "2 where=" + Checks.many(AHEAD));
    Checks.sentence("FRAMES of a PROCESS: one for each CALL of a FUNCTION that has not returned, that of F first;");
    does("", "I ( 4 ) ;", "2 FRAMES=4", "2 function 3=3", "2 local 3 a=4", "2 local 3 b=0", "2 where=8");
    does("", "h = G ( ) ;", "2 FRAMES=4", "2 function 3=1", "2 where=" + (Checks.many(AHEAD) + 6 + Checks.many("get ( y ) ; } G ( ) {")));
    int back = Checks.many(AHEAD) + Checks.many(IN_G);
    for (String end : new String[] {"return ;", "return b ;"}) {
      does("", end, "2 FRAMES=2", "2 function 2=-1", "2 local 2 a=-", "2 local 2 b=-", "2 HELD=0", "2 where=" + (back + Checks.many(end)));
    }
    Checks.sentence("TRAPS: 1 an ADDRESS that is not OWN is read or stored to;");
    ends("", "b = 1 / 0 ;", 202, 3);
    ends("", "* ( y + 17 ) = 1 ;", 201, 2);
    ends("", "b = * 7 ;", 201, 2);
    ends("", "b = read ( 0 , 7 ) ;", 201, 2);
    ends("", "exit ( - 6 ) ;", -6, 1);
  }

  /** PROCESS 2 ends by that: its child 3 is GONE, 4 is nobody's, and its parent, which WAITS for it, CAN GO ON. */
  private static void ends(String pre, String statement, int code, int why) {
    ended(busy(pre, statement), statement, code, why);
  }

  private static void ended(Checks.Maker maker, String statement, int code, int why) {
    TreeMap<String, String> due = Told.ticked(before(maker), 2);
    Told.ended(due, 2, 3, code, why);
    Told.apply(due, "3 STATE=4", "3 SLOT=-1", "3 parent=0", "4 parent=0", "1 can=true", "ends of pipe 0=1 1");
    Told.same(statement, Told.of(stepped(maker)), due);
  }

  // ---- SERVICES

  private static void forkAndExec() {
    Checks.sentence("Otherwise a child begins: it has all that its parent has (the PROGRAM as its parent has it, MEMORY, BREAK, FRAMES, DESCRIPTORS, handlers, what is HELD), but no signals; it tells its PID to the "
        + "parent, 0 to the child; both GO ON, the child first.");
    Checks.Maker maker = busy("", "b = fork ( ) ;");
    TreeMap<String, String> before = before(maker);
    TreeMap<String, String> due = Told.ticked(before, 2);
    Told.apply(due, "2 where=" + (Checks.many(AHEAD) + 6), "2 local 2 b=5");
    for (Map.Entry<String, String> told : before.entrySet()) {
      if (told.getKey().startsWith("2 ")) {
        due.put("5 " + told.getKey().substring(2), told.getValue());
      }
    }
    Told.apply(due, "5 parent=2", "5 signals=0", "5 TICKS=0", "5 IDLE=0", "5 SLOT=4", "5 local 2 b=0", "5 where=" + (Checks.many(AHEAD) + 6), "PIDS=5", "ends of pipe 0=3 3");
    Told.same("fork", Told.of(stepped(maker)), due);
    Checks.sentence("exec(p): -1 if p is not 0 to 3, or the TEXT of the PROGRAM p has an ERROR.");
    for (String p : new String[] {"- 1", "4", "2", "3"}) {
      does("", "b = exec ( " + p + " ) ;", "2 local 2 b=-1");
    }
    Checks.sentence("Otherwise the PROCESS has that PROGRAM, all cells 0, BREAK 32, one FRAME of F, no handlers, nothing HELD; DESCRIPTORS and signals stay; it begins with F.");
    maker = busy("on ( 1 , 3 ) ; x [ 18 ] = 7 ;", "b = exec ( 1 ) ;");
    due = Told.ticked(before(maker), 2);
    for (int address = 8; address <= 95; address++) {
      due.put("2 cell " + address, address < 32 ? "0" : "-");
    }
    for (int frame = 0; frame < 12; frame++) {
      due.put("2 function " + frame, frame == 0 ? "0" : "-1");
      for (int name = 0; name < 8; name++) {
        due.put("2 local " + frame + " " + Checks.sign(20 + name), frame == 0 && name == 7 ? "0" : "-");
      }
    }
    Told.apply(due, "2 PROGRAM=1", "2 BREAK=32", "2 FRAMES=1", "2 HELD=0", "2 handler 1=0", "2 handler 2=0", "2 where=" + Checks.many("I ( b ) { } F ( ) { int h ;"));
    Told.same("exec", Told.of(stepped(maker)), due);
  }

  private static void waitAndExit() {
    Checks.sentence("With an ENDED child: that with the smallest PID is GONE, its CODE is stored at a (unless a is 0); its PID. Otherwise it WAITS.");
    does("", "b = wait ( 0 ) ;", "3 STATE=4", "3 SLOT=-1", "2 local 2 b=3");
    does("", "b = wait ( & h ) ;", "3 STATE=4", "3 SLOT=-1", "2 local 2 b=3", "2 cell 15=4");
    does("", "wait ( y + 16 ) ;", "3 STATE=4", "3 SLOT=-1", "2 cell 40=4");
    waitsIn("wait ( 0 ) ;", "b = wait ( & h ) ;", "wait");
    does("kill ( 4 , 3 ) ; wait ( 0 ) ; wait ( 0 ) ;", "b = wait ( 0 ) ;", "2 local 2 b=-1");
  }

  /** It WAITS in that, and nothing else changes. */
  private static void waitsIn(String pre, String statement, String service) {
    does(pre, statement, "2 STATE=2", "2 can=false", "2 waitsIn=" + Checks.token(service), "2 where=" + (Checks.many(AHEAD) + Checks.many(pre)));
  }

  private static void pipeCalls() {
    Checks.sentence("Otherwise the smallest free DESCRIPTOR leads to the reading end of a new PIPE, the next free one to its writing end; both are stored at a and a + 1; 0.");
    does("", "b = pipe ( & g ) ;", "2 local 2 b=0", "2 cell 14=3", "2 cell 15=4", "2 descriptor 3=r1", "2 descriptor 4=w1", "2 DESCRIPTORS=5", "pipe 1=", "ends of pipe 1=1 1", "OPENINGS=5");
    does("open ( 5 , 0 ) ; open ( 5 , 0 ) ;", "b = pipe ( & g ) ;", "2 local 2 b=-1");
    Checks.sentence("read(d, a): -1 if d is no DESCRIPTOR that is open, or not one for reading.");
    for (String d : new String[] {"1", "2", "3", "6", "- 1"}) {
      does("", "b = read ( " + d + " , & h ) ;", "2 local 2 b=-1");
    }
    does("", "b = read ( 0 , & h ) ;", "2 local 2 b=1", "2 cell 15=6", "pipe 0=");
    waitsIn("read ( 0 , & h ) ;", "b = read ( 0 , & g ) ;", "read");
    does("kill ( 4 , 3 ) ; pause ( ) ; read ( 0 , y ) ; close ( 1 ) ;", "b = read ( 0 , & g ) ;", "2 local 2 b=0");
    Checks.sentence("write(d, v): -1 if d is not open for writing.");
    for (String d : new String[] {"0", "3", "6", "- 1"}) {
      does("", "b = write ( " + d + " , 9 ) ;", "2 local 2 b=-1");
    }
    does("", "b = write ( 1 , 9 ) ;", "2 local 2 b=1", "pipe 0=6 9");
    does("write ( 1 , 7 ) ; write ( 1 , 8 ) ;", "b = write ( 1 , 9 ) ;", "2 local 2 b=1", "pipe 0=6 7 8 9");
    waitsIn("write ( 1 , 7 ) ; write ( 1 , 7 ) ; write ( 1 , 7 ) ;", "b = write ( 1 , 9 ) ;", "write");
    does("kill ( 4 , 3 ) ; pause ( ) ; close ( 0 ) ;", "b = write ( 1 , 9 ) ;", "2 local 2 b=-1");
    Checks.sentence("close(d): 0; -1 if it is not open.");
    does("", "b = close ( 0 ) ;", "2 local 2 b=0", "2 descriptor 0=-", "2 DESCRIPTORS=2", "ends of pipe 0=1 2");
    does("", "b = close ( 1 ) ;", "2 local 2 b=0", "2 descriptor 1=-", "2 DESCRIPTORS=2", "ends of pipe 0=2 1");
    does("", "b = close ( 2 ) ;", "2 local 2 b=0", "2 descriptor 2=-", "2 DESCRIPTORS=2");
    for (String d : new String[] {"3", "5", "6", "- 1"}) {
      does("", "b = close ( " + d + " ) ;", "2 local 2 b=-1");
    }
  }

  /** FILES are 3 (made and written to: two ACTS), 5 (50 and 51), and 6 without a cell. */
  private static void fileCalls() {
    String now = "3=5;5=50,51;6=;";
    Checks.sentence("A DESCRIPTOR of a PROCESS (0 to 5; free or not) leads to an OPENING: of a FILE's BODY with a position and a mode, or of an end of a PIPE.");
    does("", "b = write ( 2 , 9 ) ;", "2 local 2 b=1", "2 descriptor 2=f3@2:1", "4 descriptor 2=f3@2:1", "PENDING=3", "would 3=3=5,9;5=50,51;6=;");
    Checks.sentence("open(n, m): a FILE name n (0 to 7), mode m (0 reading, 1 writing from the position 0, 2 the same of an emptied one, 3 writing at its end).");
    for (int mode = 0; mode <= 3; mode++) {
      String[] opened = {"2 local 2 b=3", "2 descriptor 3=f5@0:" + mode, "2 DESCRIPTORS=4", "OPENINGS=4"};
      does("", "b = open ( 5 , " + mode + " ) ;", mode == 2 ? with(opened, "PENDING=3", "would 3=3=5;5=;6=;") : opened);
      String[] again = {"2 local 2 b=3", "2 descriptor 3=f3@0:" + mode, "2 DESCRIPTORS=4", "OPENINGS=4"};
      does("", "b = open ( 3 , " + mode + " ) ;", mode == 2 ? with(again, "2 descriptor 2=f3@0:1", "4 descriptor 2=f3@0:1", "PENDING=3", "would 3=3=;5=50,51;6=;") : again);
      does("", "b = open ( 6 , " + mode + " ) ;", "2 local 2 b=3", "2 descriptor 3=f6@0:" + mode, "2 DESCRIPTORS=4", "OPENINGS=4");
      String[] made = {"2 local 2 b=3", "2 descriptor 3=f0@0:" + mode, "2 DESCRIPTORS=4", "OPENINGS=4", "BODIES=4", "PENDING=3", "would 3=0=;" + now};
      does("", "b = open ( 0 , " + mode + " ) ;", mode == 0 ? new String[] {"2 local 2 b=-1"} : made);
    }
    does("open ( 5 , 0 ) ;", "b = read ( 3 , & h ) ;", "2 local 2 b=1", "2 cell 15=50", "2 descriptor 3=f5@1:0");
    does("open ( 6 , 0 ) ;", "b = read ( 3 , & h ) ;", "2 local 2 b=0");
    does("open ( 5 , 1 ) ;", "b = write ( 3 , 9 ) ;", "2 local 2 b=1", "2 descriptor 3=f5@1:1", "PENDING=3", "would 3=3=5;5=9,51;6=;");
    does("open ( 5 , 2 ) ;", "b = write ( 3 , 9 ) ;", "2 local 2 b=1", "2 descriptor 3=f5@1:2", "PENDING=4", "would 4=3=5;5=9;6=;");
    does("open ( 5 , 3 ) ;", "b = write ( 3 , 9 ) ;", "2 local 2 b=1", "2 descriptor 3=f5@3:3", "PENDING=3", "would 3=3=5;5=50,51,9;6=;");
    // what is written may be what is there: it is an ACT too
    does("open ( 3 , 1 ) ;", "b = write ( 3 , 5 ) ;", "2 local 2 b=1", "2 descriptor 3=f3@1:1", "PENDING=3", "would 3=" + now);
    Checks.sentence("unlink(n): the name is gone, an ACT; 0; -1 if there is no such FILE. Its BODY is there as long as it is open somewhere.");
    does("", "b = unlink ( 3 ) ;", "2 local 2 b=0", "2 descriptor 2=f-@1:1", "4 descriptor 2=f-@1:1", "PENDING=3", "would 3=5=50,51;6=;");
    does("", "b = unlink ( 5 ) ;", "2 local 2 b=0", "BODIES=2", "PENDING=3", "would 3=3=5;6=;");
    does("", "b = unlink ( 4 ) ;", "2 local 2 b=-1");
    // the cells of a BODY without a name are there, too
    does("open ( 5 , 0 ) ; unlink ( 5 ) ; read ( 3 , & g ) ;", "b = read ( 3 , & h ) ;", "2 local 2 b=1", "2 cell 15=51", "2 descriptor 3=f-@2:0");
    does("unlink ( 3 ) ;", "b = write ( 2 , 8 ) ;", "2 local 2 b=1", "2 descriptor 2=f-@2:1", "4 descriptor 2=f-@2:1", "PENDING=4", "would 4=5=50,51;6=;");
    does("open ( 5 , 0 ) ; unlink ( 5 ) ;", "b = close ( 3 ) ;", "2 local 2 b=0", "2 descriptor 3=-", "2 DESCRIPTORS=3", "OPENINGS=3", "BODIES=2");
    Checks.sentence("sync(): a SYNC; how many ACTS were PENDING.");
    does("", "b = sync ( ) ;", "2 local 2 b=2", "PENDING=0", "would 0=" + now, "would 1=none", "would 2=none");
  }

  private static void signalCalls() {
    Checks.sentence("kill(p, s): -1 if s is not 1 to 3, or the PROCESS p is not READY or WAITING; otherwise s is a signal of that (once); 0.");
    for (int s = 1; s <= 3; s++) {
      does("", "b = kill ( 1 , " + s + " ) ;", "2 local 2 b=0", "1 signals=" + (1 << s - 1), "1 can=true");
      does("", "b = kill ( 2 , " + s + " ) ;", "2 local 2 b=0", "2 signals=" + (1 | 1 << s - 1));
      does("", "b = kill ( 4 , " + s + " ) ;", "2 local 2 b=0", "4 signals=" + (1 << s - 1), "4 can=true");
      for (String p : new String[] {"3", "5", "0", "- 1"}) {
        does("", "b = kill ( " + p + " , " + s + " ) ;", "2 local 2 b=-1");
      }
    }
    does("", "b = kill ( 4 , 0 ) ;", "2 local 2 b=-1");
    does("", "b = kill ( 4 , 4 ) ;", "2 local 2 b=-1");
    Checks.sentence("on(s, k): section 5.");
    Checks.sentence("on(s, k): s 1 or 2; k 0 (no handler), or 1 to 3 (G, H, I), if that is defined in its PROGRAM with one parameter: the handler of s is that; it tells the one before (0 at first); -1 otherwise.");
    does("", "b = on ( 1 , 3 ) ;", "2 local 2 b=0", "2 handler 1=3");
    does("", "b = on ( 2 , 0 ) ;", "2 local 2 b=3", "2 handler 2=0");
    does("", "b = on ( 2 , 3 ) ;", "2 local 2 b=3");
    for (String wrong : new String[] {"1 , 1", "1 , 2", "1 , 4", "3 , 3", "0 , 0"}) {
      does("", "b = on ( " + wrong + " ) ;", "2 local 2 b=-1");
    }
    Checks.sentence("A signal without handler (3 always) ends the PROCESS: CODE 100 + s.");
    ended(busy("", ";", x -> x.send(2, 3)), "signal 3", 103, 5);
    // with nothing HELD the signals 1 and 2 are taken
    Checks.Maker maker = busy("on ( 1 , 3 ) ;", "return 0 ;", x -> x.step(), x -> Checks.due("HELD", x.ofProcess(2, 4), 0), x -> x.send(2, 2));
    int rest = Checks.many(AHEAD) + Checks.many("on ( 1 , 3 ) ; return 0 ;") + Checks.many(IN_G);
    does(maker, "signals 1 and 2 with handlers", "2 signals=2", "2 HELD=1", "2 FRAMES=3", "2 function 2=3", "2 local 2 a=1", "2 local 2 b=0", "2 where=8");
    Checks.due("where it rested", maker.make().where(2), rest);
    ended(busy("", "return 0 ;", x -> x.step()), "signal 1 without a handler", 101, 5);
  }

  private static void others() {
    Checks.sentence("put(v): PID and v are added to OUTS; v.");
    does("", "b = put ( - 8 ) ;", "2 local 2 b=-8", "OUTS=1", "outs from 0=2:-8");
    Checks.sentence("get(a): WAITS without INPUTS; the first one is taken out and stored; 1.");
    waitsIn("", "b = get ( & h ) ;", "get");
    Checks.Maker maker = busy("", "b = get ( & h ) ;", x -> x.give(70), x -> x.give(71));
    int next = Checks.many(AHEAD) + Checks.many("b = get ( & h ) ;");
    does(maker, "get", "2 local 2 b=1", "2 cell 15=70", "inputs=71", "2 where=" + next);
    maker = busy("", "b = get ( & h ) ;", x -> x.give(LEAST));
    does(maker, "get of the last one", "2 local 2 b=1", "2 cell 15=" + LEAST, "inputs=", "2 where=" + next, "4 can=false");
    Checks.sentence("(c) if it is WAITING, its CALL is looked at again, with what was reckoned for it: with a signal that is to be taken it tells -1 (the signal is not taken by that), otherwise it is done; and it GOES ON.");
    maker = busy("", "b = get ( & h ) ;", x -> x.step(), x -> x.give(70), x -> x.send(2, 3), x -> x.turn(2));
    does(maker, "get that is signalled", "2 local 2 b=-1", "2 STATE=1", "2 can=none", "2 waitsIn=-1", "2 where=" + next);
    maker = busy("", "b = get ( & h ) ;", x -> x.step(), x -> x.give(70));
    does(maker, "get that WAITED", "2 local 2 b=1", "2 cell 15=70", "inputs=", "2 STATE=1", "2 can=none", "2 waitsIn=-1", "2 where=" + next, "4 can=false");
    Checks.sentence("grow(n): -1 if BREAK + n is not 32 to 96; otherwise BREAK is that, all cells between old and new are 0; the old BREAK.");
    does("", "b = grow ( 3 ) ;", "2 local 2 b=41", "2 BREAK=44", "2 cell 41=0", "2 cell 42=0", "2 cell 43=0");
    does("x [ 18 ] = 7 ;", "b = grow ( - 8 ) ;", "2 local 2 b=41", "2 BREAK=33", "2 cell 33=-", "2 cell 34=-", "2 cell 35=-", "2 cell 36=-", "2 cell 37=-", "2 cell 38=-", "2 cell 39=-", "2 cell 40=-");
    does("", "b = grow ( 0 ) ;", "2 local 2 b=41");
    does("", "b = grow ( - 10 ) ;", "2 local 2 b=-1");
    does("", "b = grow ( 8 * 7 ) ;", "2 local 2 b=-1");
    Checks.sentence("pid(): its PID. pause(): 0; USED is QUANTUM behind that TICK.");
    does("", "b = pid ( ) ;", "2 local 2 b=2");
    does("", "b = pause ( ) ;", "2 local 2 b=0", "USED=4");
  }

  // ---- calls from outside

  /** PROCESS 2 has had a TICK more, in which 4 CAN GO ON: there is an INPUT, and 4 is IDLE. */
  private static Checks.Maker inTurn() {
    return busy("", "; ;", x -> x.give(70), x -> x.step());
  }

  /** With the call just this changes; what it answers is due, too. */
  private static void changes(String what, Checks.Call call, Object answer, String... changes) {
    Checks.Maker maker = inTurn();
    TreeMap<String, String> due = before(maker);
    Told.apply(due, changes);
    Checks.due(what, Checks.answer(maker.make(), call), answer);
    Told.same(what, Told.of(called(maker, call)), due);
  }

  private static Checks.Maker called(Checks.Maker maker, Checks.Call call) {
    return () -> {
      Pagekernel x = maker.make();
      call.of(x);
      return x;
    };
  }

  private static void texts() {
    Checks.sentence("Returns how many TOKENS it has then.");
    changes("type", x -> x.type(2, 47, 41, -1, 0, 0), 9, "text 2=F ( ) { break ; } ; }");
    Checks.sentence("Returns how many are left.");
    changes("drop", x -> x.drop(1, 3), 16, "text 1=I ( b ) { } F ( ) { int h ; get ( y");
    Checks.sentence("Returns how many TOKENS it has.");
    changes("sample", x -> x.sample(3, 0), 27, "text 3=F ( ) { int a ; while ( a < 3 ) { put ( a ) ; a = a + 1 ; } }");
    Checks.sentence("Returns the one before.");
    changes("change", x -> x.change(1, 0, 31), 33, "text 1=G ( b ) { } F ( ) { int h ; get ( y ) ; }");
    // a PROCESS has its PROGRAM as it was: nothing of it changes with the TEXT
    changes("sample to the PROGRAM of all", x -> x.sample(0, 0), 27, "text 0=F ( ) { int a ; while ( a < 3 ) { put ( a ) ; a = a + 1 ; } }");
    changes("drop of it", x -> x.drop(0, x.length(0)), 0, "text 0=");
  }

  private static void machine() {
    Checks.sentence("Tells QUANTUM.");
    changes("quantum(1)", x -> x.quantum(1), 4, "QUANTUM=1");
    changes("quantum(10)", x -> x.quantum(10), 4, "QUANTUM=10");
    Checks.sentence("A signal is sent by nobody.");
    changes("send to 1", x -> x.send(1, 3), 1, "1 signals=4", "1 can=true");
    changes("send to 2", x -> x.send(2, 2), 1, "2 signals=3");
    changes("send again", x -> x.send(2, 1), 1);
    changes("send to 3", x -> x.send(3, 1), 0);
    changes("send to 4", x -> x.send(4, 1), 1, "4 signals=1");
    changes("send to 5", x -> x.send(5, 1), 0);
    Checks.sentence("Returns how many there are.");
    changes("give", x -> x.give(LEAST), 2, "inputs=70 " + LEAST);
    Checks.sentence("Nobody's PROCESS adds a cell at the end of a FILE: if there is none, it is made first (both are ACTS).");
    changes("store", x -> x.store(5, 9), 3, "PENDING=3", "would 3=3=5;5=50,51,9;6=;");
    changes("store to what is open", x -> x.store(3, 9), 2, "PENDING=3", "would 3=3=5,9;5=50,51;6=;");
    changes("store to a new one", x -> x.store(0, 9), 1, "PENDING=4", "BODIES=4", "would 3=0=;3=5;5=50,51;6=;", "would 4=0=9;3=5;5=50,51;6=;");
    Checks.sentence("Drops a name, as unlink().");
    changes("remove", x -> x.remove(5), 1, "PENDING=3", "BODIES=2", "would 3=3=5;6=;");
    changes("remove of what is open", x -> x.remove(3), 1, "PENDING=3", "2 descriptor 2=f-@1:1", "4 descriptor 2=f-@1:1", "would 3=5=50,51;6=;");
    changes("remove of none", x -> x.remove(0), 0);
    changes("sync", x -> x.sync(), 2, "PENDING=0", "would 0=3=5;5=50,51;6=;", "would 1=none", "would 2=none");
    Checks.sentence("Returns how many before.");
    changes("frames", x -> x.frames(40), 9, "pages=40");
    changes("level", x -> x.level(2), 1, "LEVEL=2");
    changes("press", x -> x.press(2), 1);
    changes("press of one that is ENDED", x -> x.press(3), 0);
    changes("knock", x -> x.knock(), 3, "knocks=3");
    changes("start of an ERROR", x -> x.start(2), -9);
    Checks.sentence("A PROCESS begins, with the parent 0; if F has no STATEMENT that begins, it returns at once.");
    changes("start, a signal to it, and a TICK of another one", x -> x.start(1) * 100 + x.send(5, 3) * 10 + x.step(), 512, begun());
  }

  /** What is told of the new PROCESS, and what its only TICK (PROCESS 2 has its turn still) changed. */
  private static String[] begun() {
    TreeMap<String, String> due = new TreeMap<>();
    Checks.Maker maker = inTurn();
    TreeMap<String, String> before = before(maker);
    TreeMap<String, String> ticked = Told.ticked(before, 2);
    for (String name : ticked.keySet()) {
      if (!ticked.get(name).equals(before.get(name))) {
        due.put(name, ticked.get(name));
      }
    }
    due.put("2 where", "" + (Checks.many(AHEAD) + 2));
    String[] of = {"STATE=1", "parent=0", "FRAMES=1", "BREAK=32", "signals=4", "HELD=0", "PROGRAM=1", "TICKS=0", "CODE=0", "WHY=0", "DESCRIPTORS=0", "IDLE=1", "SLOT=4", "waitsIn=-1", "handler 1=0",
      "handler 2=0"};
    for (String change : of) {
      Told.apply(due, "5 " + change);
    }
    due.put("5 where", "" + Checks.many("I ( b ) { } F ( ) { int h ;"));
    for (int address = 8; address <= 95; address++) {
      due.put("5 cell " + address, address < 32 ? "0" : "-");
    }
    for (int frame = 0; frame < 12; frame++) {
      due.put("5 function " + frame, frame == 0 ? "0" : "-1");
      for (int name = 0; name < 8; name++) {
        due.put("5 local " + frame + " " + Checks.sign(20 + name), frame == 0 && name == 7 ? "0" : "-");
      }
    }
    for (int descriptor = 0; descriptor < 6; descriptor++) {
      due.put("5 descriptor " + descriptor, "-");
    }
    due.put("PIDS", "5");
    List<String> all = new ArrayList<>();
    for (String name : due.keySet()) {
      all.add(name + "=" + due.get(name));
    }
    return all.toArray(new String[0]);
  }

  private static void crashes() {
    Checks.sentence("A CRASH: all PROCESSES are GONE (as if each ended, with CODE 0 and WHY 6, but of one that is ENDED or GONE ahead of it these stay; parents are 0), with PIPES, OPENINGS and INPUTS; TURN is NONE; "
        + "OUTS stay; nothing is PENDING; FILES are as is told.");
    Checks.Maker maker = busy("put ( 3 ) ;", ";", x -> x.give(70), x -> x.send(4, 2), x -> x.run(1));
    String[] files = {"5=50,51;6=;", "3=;5=50,51;6=;", "3=5;5=50,51;6=;"};
    for (int way = 0; way < 7; way++) {
      TreeMap<String, String> due = before(maker);
      Checks.due("IDLE before it", Integer.parseInt(due.get("4 IDLE")) > 0, true);
      for (int pid = 1; pid <= 4; pid++) {
        if (pid != 3) {
          Told.ended(due, pid, 4, 0, 6);
        }
        due.put(pid + " parent", "0");
      }
      String left = way == 6 ? files[2] : files[way % 3];
      int names = left.split(";").length;
      Told.apply(due, "3 STATE=4", "3 SLOT=-1", "TURN=-1", "USED=0", "pipe 0=-", "ends of pipe 0=-1 -1", "OPENINGS=0", "inputs=", "PENDING=0", "would 0=" + left, "would 1=none", "would 2=none", "crashes=2",
          "BODIES=" + names);
      int n = way % 3;
      boolean isTorn = way >= 3;
      Checks.Call call = way == 6 ? x -> x.halted(5) : x -> x.crash(n, isTorn);
      Checks.due("how many FILES", Checks.answer(maker.make(), call), names);
      Told.same("crash in the way " + way, Told.of(called(maker, call)), due);
    }
  }

  public static void main(String[] arguments) {
    statements();
    forkAndExec();
    waitAndExit();
    pipeCalls();
    fileCalls();
    signalCalls();
    others();
    texts();
    machine();
    crashes();
    Checks.end();
  }
}
