/** Section 3 of the document at its edges, and promises 12 to 28: SLOTS, PIDS, ends, TICKS, turns and IDLE. */
public final class ProcessEdgesTest {
  private static final String LOOP = "F ( ) { while ( 1 ) ; }";
  private static final String FAMILY = "F ( ) { int b ; open ( 1 , 1 ) ; b = fork ( ) ; if ( b == 0 ) exit ( 4 ) ; b = fork ( ) ; if ( b == 0 ) exit ( 5 ) ; wait ( 0 ) ; b = fork ( ) ; if ( b == 0 ) while ( 1 ) ; "
      + "b = fork ( ) ; if ( b == 0 ) get ( & a ) ; while ( 1 ) ; }";

  private static String each(Pagekernel x, int what) {
    StringBuilder all = new StringBuilder();
    for (int pid = 1; pid <= x.house(8); pid++) {
      all.append(pid > 1 ? " " : "").append(x.ofProcess(pid, what));
    }
    return all.toString();
  }

  // ---- SLOTS and PIDS

  private static void sixSlots() {
    Checks.sentence("At most 6 PROCESSES are there, each in a SLOT (0 to 5; as it begins the smallest free one), with a PID (1, 2, 3, ... as they begin; at most 60 in all),");
    Pagekernel x = Checks.with(LOOP);
    for (int i = 1; i <= 6; i++) {
      Checks.due("start", x.start(0), i);
    }
    Checks.due("SLOTS", each(x, 11), "0 1 2 3 4 5");
    Checks.due("a seventh", Checks.answer(x, y -> y.start(0)), Checks.STATE);
    x.send(6, 3);
    x.send(4, 3);
    x.send(1, 3);
    x.run(20);
    Checks.due("STATES", Checks.states(x), "411414");
    for (int i = 7; i <= 9; i++) {
      Checks.due("start", x.start(0), i);
    }
    Checks.due("SLOTS", each(x, 11), "-1 1 2 -1 4 -1 0 3 5");
    Checks.due("a seventh", Checks.answer(x, y -> y.start(0)), Checks.STATE);
    Checks.due("house(0)", x.house(0), 6);
    // a child begins in the smallest one too
    Pagekernel y = Checks.with("F ( ) { get ( & a ) ; b = fork ( ) ; while ( 1 ) ; }");
    for (int i = 0; i < 6; i++) {
      y.start(0);
    }
    y.run(20);
    y.send(2, 3);
    y.send(5, 3);
    y.run(20);
    Checks.due("STATES", Checks.states(y), "242242");
    y.give(1);
    Checks.ticks(y, 2);
    Checks.due("the first child", y.ofProcess(7, 11), 1);
    y.give(1);
    y.run(20);
    Checks.due("the second child", y.ofProcess(8, 11), 4);
    y.give(1);
    y.run(20);
    Checks.due("no third", y.house(8) * 10 + y.house(0), 86);
    Checks.due("-1 is told", y.cell(1, 9) + y.cell(3, 9) + y.cell(4, 9) + y.cell(6, 9), "8-107");
  }

  private static void endedOnesHaveTheirSlots() {
    Checks.sentence("3 ENDED (its parent has not waited for it; it has its SLOT still), 4 GONE.");
    Pagekernel x = Checks.begun("F ( ) { while ( b > - 1 ) { b = fork ( ) ; if ( b == 0 ) exit ( 1 ) ; } get ( & a ) ; wait ( 0 ) ; get ( & a ) ; }", 0);
    x.run(200);
    Checks.due("STATES", Checks.states(x), "233333");
    Checks.due("SLOTS", each(x, 11), "0 1 2 3 4 5");
    Checks.due("a seventh", Checks.answer(x, y -> y.start(0)), Checks.STATE);
    x.give(0);
    x.run(200);
    Checks.due("STATES", Checks.states(x), "243333");
    Checks.due("room for one", x.start(0), 7);
    Checks.due("in its SLOT", x.ofProcess(7, 11), 1);
    Checks.due("a seventh", Checks.answer(x, y -> y.start(0)), Checks.STATE);
  }

  private static void sixtyPids() {
    Checks.sentence("Throws `IllegalStateException` if there are 6 PROCESSES, or 60 PIDS were given");
    Pagekernel x = Checks.with("F ( ) { }");
    for (int pid = 1; pid <= 60; pid++) {
      Checks.due("start", x.start(0), pid);
      Checks.due("state(" + pid + ")", x.state(pid), 4);
      Checks.due("state of the next", x.state(pid + 1), 0);
    }
    Checks.due("a 61st", Checks.answer(x, y -> y.start(0)), Checks.STATE);
    Checks.due("PIDS", x.house(8), 60);
    Checks.due("state(61)", x.state(61), 0);
    Checks.due("the 60th", x.ofProcess(60, 8), 1);
    x.crash(0, true);
    Checks.due("a 61st behind a crash", Checks.answer(x, y -> y.start(0)), Checks.STATE);
    // the last one by fork
    for (int begun = 58; begun <= 60; begun++) {
      Pagekernel y = Checks.with("F ( ) { }");
      Checks.write(y, 1, "F ( ) { a = fork ( ) ; a = fork ( ) ; put ( a ) ; }");
      for (int i = 1; i < begun; i++) {
        y.start(0);
      }
      y.start(1);
      y.run(200);
      Checks.due("PIDS behind " + begun, y.house(8), 60);
      String due = begun == 60 ? "60:-1" : begun == 59 ? "59:-1 60:-1" : "58:60 60:0 59:-1";
      Checks.due("how many OUTS behind " + begun, y.out(0).split(" ").length, due.split(" ").length);
      for (String one : due.split(" ")) {
        Checks.due("told behind " + begun + ": " + one, (" " + y.out(0) + " ").contains(" " + one + " "), true);
      }
    }
  }

  // ---- ends

  private static void endOfAFamily() {
    Checks.sentence("all its descriptors are closed; children of it that are ENDED are GONE, its other children have the parent 0 (also ENDED or GONE ones, for ofProcess()); it is ENDED, or GONE, if "
        + "its parent is 0.");
    Pagekernel x = Checks.begun(FAMILY, 0);
    x.run(60);
    Checks.due("STATES", Checks.states(x), "14312");
    Checks.due("parents", each(x, 0), "0 1 1 1 1");
    Checks.due("SLOTS", each(x, 11), "0 -1 2 1 3");
    Checks.due("children", x.children(1), "3 4 5");
    Checks.due("OPENINGS", x.house(13), 1);
    x.send(1, 3);
    x.run(9);
    Checks.due("STATES", Checks.states(x), "44412");
    Checks.due("parents", each(x, 0), "0 0 0 0 0");
    Checks.due("SLOTS", each(x, 11), "-1 -1 -1 1 3");
    Checks.due("children", x.children(1), "");
    Checks.due("CODE stays", x.ofProcess(2, 7) * 10 + x.ofProcess(3, 7), 45);
    Checks.due("children have it open still", x.house(13) * 10 + x.ofProcess(4, 9), 11);
    x.give(1);
    x.send(4, 3);
    x.run(9);
    Checks.due("without a parent GONE at once", Checks.states(x), "44441");
    Checks.due("one has it open", x.descriptor(5, 0), "f1@0:1");
    x.send(5, 3);
    x.run(9);
    Checks.due("none has", x.house(13) + x.house(0), 0);
    // a parent that is ENDED or GONE itself
    Pagekernel y = Checks.begun("F ( ) { a = fork ( ) ; if ( a ) while ( 1 ) ; a = fork ( ) ; if ( a ) exit ( 3 ) ; while ( 1 ) ; }", 0);
    y.run(40);
    Checks.due("STATES", Checks.states(y), "131");
    Checks.due("parents", each(y, 0), "0 1 0");
    Checks.due("children", y.children(1) + "/" + y.children(2), "2/");
    y.send(3, 3);
    y.run(9);
    Checks.due("STATES", Checks.states(y), "134");
  }

  private static void nothingToBegin() {
    Checks.sentence("a FUNCTION without a STATEMENT that begins returns 0 at once, as its FRAME is laid (by start(), a CALL, exec() or a signal).");
    for (String body : new String[] {"", "{ }", "int h ;", "{ { int h ; } } { int g ; }"}) {
      Pagekernel x = Checks.with("F ( ) { " + body + " }");
      Checks.due("start()", x.start(0), 1);
      Checks.due("ended", x.state(1) * 100 + x.ofProcess(1, 7) * 10 + x.ofProcess(1, 8), 401);
      Checks.due("TICKS", x.ofProcess(1, 6) + x.house(6), 0);
      Checks.due("FRAMES", x.ofProcess(1, 1), 1);
      Checks.due("TURN", x.turn(0), -1);
      Pagekernel y = Checks.begun("G ( ) { " + body + " } F ( ) { a = 5 ; a = G ( ) ; b = 6 ; }", 2);
      Checks.due("a CALL", y.cell(1, 8) + y.ofProcess(1, 1) + y.ofProcess(1, 6), "012");
      Pagekernel z = Checks.begun("F ( ) { exec ( 1 ) ; }", 0);
      Checks.write(z, 1, "F ( ) { " + body + " }");
      Checks.ticks(z, 1);
      Checks.due("exec()", z.state(1) * 100 + z.ofProcess(1, 7) * 10 + z.ofProcess(1, 8), 401);
      Checks.due("PROGRAM", z.ofProcess(1, 5), 1);
      Pagekernel w = Checks.begun("H ( a ) { " + body + " } F ( ) { on ( 1 , 2 ) ; ; ; }", 1);
      int rest = w.where(1);
      w.send(1, 1);
      Checks.ticks(w, 1);
      Checks.due("a signal", w.where(1) - rest + w.ofProcess(1, 4) + w.ofProcess(1, 3) + w.ofProcess(1, 1), 1);
      Checks.due("TICKS", w.ofProcess(1, 6), 2);
    }
    Checks.sentence("BLOCKS and \"int\" are no STATEMENTS that begin; all others are, also \";\".");
    String[] beginning = {";", "if ( 0 ) ;", "while ( 0 ) ;", "return ;", "return 0 ;", "pid ( ) ;", "a = pid ( ) ;", "a = 1 ;", "x [ 0 ] = 1 ;", "* 8 = 1 ;", "while ( 1 ) break ;", "{ ; }", "F ( ) ;"};
    for (String statement : beginning) {
      Pagekernel x = Checks.begun("F ( ) { int h ; " + statement + " }", 0);
      Checks.due("STATE ahead of " + statement, x.state(1), 1);
      Checks.due("where", x.where(1), statement.startsWith("{") ? 8 : 7);
      Checks.due("TICKS of " + statement, x.run(200), statement.equals("while ( 1 ) break ;") ? 2 : statement.startsWith("F") ? 12 : 1);
    }
  }

  private static void returns() {
    Checks.sentence("A return from the first FRAME ends the PROCESS, its value is CODE; from another one (also of F): the FRAME is gone, the value goes to the NAME of the CALL, if there is one, and the "
        + "PROCESS GOES ON behind that (also at once, in the same TICK).");
    Pagekernel x = Checks.begun("F ( ) { a = a + 1 ; if ( a < 4 ) { b = F ( ) ; c = c * 10 + b ; } return a + 5 ; }", 0);
    x.run(200);
    Checks.due("CODE", x.ofProcess(1, 7), 9);
    // three returns and the end of the first one in one TICK
    Pagekernel y = Checks.begun("I ( ) { a = 3 ; } H ( ) { I ( ) ; } G ( ) { H ( ) ; } F ( ) { G ( ) ; }", 3);
    Checks.due("FRAMES", y.ofProcess(1, 1), 4);
    Checks.ticks(y, 1);
    Checks.due("ended", y.state(1), 4);
    Checks.due("TICKS", y.ofProcess(1, 6), 4);
    Checks.due("FRAMES: 1, if it returned from the first one", y.ofProcess(1, 1), 1);
    Checks.sentence("(\"return\" without E: 0.)");
    Pagekernel z = Checks.begun("F ( ) { a = 5 ; return ; }", 2);
    Checks.due("CODE", z.ofProcess(1, 7) * 10 + z.ofProcess(1, 8), 1);
    Pagekernel w = Checks.begun("F ( ) { get ( & a ) ; return a ; }", 0);
    w.give(Integer.MIN_VALUE);
    w.run(9);
    Checks.due("the least CODE", w.ofProcess(1, 7), Integer.MIN_VALUE);
    Pagekernel v = Checks.begun("F ( ) { get ( & a ) ; exit ( a ) ; }", 0);
    v.give(Integer.MAX_VALUE);
    v.run(9);
    Checks.due("the greatest CODE", v.ofProcess(1, 7), Integer.MAX_VALUE);
  }

  /** Far more STATEMENTS of each kind than a TEXT has TOKENS leave nothing behind them. */
  private static void manyStatements() {
    Checks.sentence("A TICK of a PROCESS is one of these:");
    for (int level = 0; level <= 2; level++) {
      Pagekernel x = Checks.with("G ( d ) { if ( b ) return 3 ; return d && b || 0 ; } F ( ) { while ( a < 19 * 19 ) { if ( b ) ; if ( a ) ; else ; while ( b ) ; while ( 1 ) break ; G ( a ) ; c = G ( a ) ; pid ( ) ; "
          + "a = a + 1 ; } put ( 9 - ( 7 - ( 5 - a ) ) ) ; put ( c ) ; }");
      Checks.due("kind", x.kind(0), 0);
      x.level(level);
      x.start(0);
      for (int i = 0; i < 100 && x.run(200) == 200; i++) {
        Checks.due("READY", x.state(1), 1);
      }
      Checks.due("OUTS", x.out(0), "1:-354 1:0");
      Checks.due("CODE and WHY", x.ofProcess(1, 7) * 10 + x.ofProcess(1, 8), 1);
    }
  }

  // ---- TICKS and turns

  private static String turns(Pagekernel x, int many) {
    StringBuilder all = new StringBuilder();
    for (int i = 0; i < many; i++) {
      int next = x.turn(2);
      Checks.due("turn(2) tells the next", next, x.step());
      Checks.due("TURN", x.turn(0), next);
      all.append(i > 0 ? " " : "").append(next).append('/').append(x.turn(1));
    }
    return all.toString();
  }

  private static void eachQuantum() {
    Checks.sentence("The next TICK is that of TURN, if that is there still, CAN GO ON, and USED is below QUANTUM (1 to 10; 3 at first);");
    Checks.due("at first", new Pagekernel().quantum(1), 3);
    for (int quantum = 1; quantum <= 10; quantum++) {
      for (int many = 1; many <= 6; many++) {
        Pagekernel x = Checks.with(LOOP);
        x.quantum(quantum);
        for (int i = 0; i < many; i++) {
          x.start(0);
        }
        StringBuilder due = new StringBuilder();
        int ticks = quantum * many + quantum + 1;
        for (int i = 0; i < ticks; i++) {
          due.append(i > 0 ? " " : "").append(i / quantum % many + 1).append('/').append(i % quantum + 1);
        }
        Checks.due(many + " with QUANTUM " + quantum, turns(x, ticks), due.toString());
      }
    }
    Checks.sentence("TURN: the PROCESS that had the last TICK (NONE at first and behind a crash), USED: how many TICKS it had since its turn began.");
    Pagekernel x = Checks.with(LOOP);
    Checks.due("at first", x.turn(0) * 100 + x.turn(1) * 10 + x.turn(2), -101);
    x.start(0);
    x.start(0);
    x.start(0);
    Checks.due("with PROCESSES that had no TICK", x.turn(0) * 100 + x.turn(1) * 10 + x.turn(2), -99);
    x.run(4);
    x.crash(0, false);
    Checks.due("behind a crash", x.turn(0) * 100 + x.turn(1) * 10 + x.turn(2), -101);
    x.start(0);
    x.start(0);
    Checks.due("from 0 on, if TURN is NONE", turns(x, 4), "4/1 4/2 4/3 5/1");
    Checks.sentence("otherwise the turn goes to the first PROCESS that CAN GO ON, by SLOTS, from the one behind the SLOT of the last TICK on, around, up to that one again (from 0 on, if TURN is NONE); "
        + "USED starts anew.");
    x.send(5, 3);
    Checks.due("its end", turns(x, 5), "5/2 4/1 4/2 4/3 4/1");
    Checks.due("the PID of who is GONE", x.start(0), 6);
    Checks.due("now", turns(x, 4), "4/2 4/3 6/1 6/2");
    x.start(0);
    x.send(6, 3);
    Checks.due("behind the SLOT of who is GONE", turns(x, 4), "6/3 7/1 7/2 7/3");
    // in the SLOT of the last TICK is another one now: it comes last
    Pagekernel y = Checks.with(LOOP);
    y.start(0);
    y.start(0);
    y.start(0);
    Checks.ticks(y, 4);
    y.send(2, 3);
    Checks.ticks(y, 1);
    Checks.due("the new one has its SLOT", y.ofProcess(y.start(0), 11), 1);
    Checks.due("TURN is GONE", y.turn(0) * 10 + y.turn(1), 22);
    Checks.due("it comes last", turns(y, 7), "3/1 3/2 3/3 1/1 1/2 1/3 4/1");
  }

  private static void quantumChanges() {
    Checks.sentence("USED is below QUANTUM (1 to 10; 3 at first);");
    Pagekernel x = Checks.with(LOOP);
    x.start(0);
    x.start(0);
    Checks.ticks(x, 2);
    x.quantum(2);
    Checks.due("2 of 2", turns(x, 2), "2/1 2/2");
    x.quantum(1);
    Checks.due("2 of 1", turns(x, 2), "1/1 2/1");
    x.quantum(10);
    Checks.due("1 of 10", turns(x, 10), "2/2 2/3 2/4 2/5 2/6 2/7 2/8 2/9 2/10 1/1");
    Checks.sentence("pause(): 0; USED is QUANTUM behind that TICK.");
    for (int quantum = 1; quantum <= 10; quantum++) {
      Pagekernel y = Checks.with("F ( ) { while ( 1 ) a = pause ( ) ; }");
      y.quantum(quantum);
      y.start(0);
      y.start(0);
      String q = "/" + quantum;
      Checks.due("pause with QUANTUM " + quantum, turns(y, 4), quantum == 1 ? "1/1 2/1 1/1 2/1" : "1/1 1" + q + " 2/1 2" + q);
    }
    Pagekernel z = Checks.with("F ( ) { a = 4 ; a = pause ( ) ; ; ; ; ; ; ; }");
    z.start(0);
    z.start(0);
    Checks.ticks(z, 2);
    Checks.due("it tells 0", z.cell(1, 8), "0");
    z.quantum(5);
    Checks.due("3 of 5 then", turns(z, 3), "1/4 1/5 2/1");
    Pagekernel w = Checks.begun("F ( ) { pause ( ) ; }", 1);
    Checks.due("also if that ends it", w.turn(0) * 10 + w.turn(1), 13);
    Checks.due("STATE", w.state(1), 4);
  }

  private static void waitersAndTurns() {
    Checks.sentence("It CAN GO ON if it is READY, or WAITING and either a signal is to be taken, or its CALL would not WAIT now.");
    Pagekernel x = Checks.with("H ( a ) { get ( & b ) ; } F ( ) { on ( 1 , 2 ) ; on ( 2 , 2 ) ; get ( & b ) ; while ( 1 ) ; }");
    x.start(0);
    Checks.due("READY", x.can(1), true);
    Checks.ticks(x, 3);
    Checks.due("WAITING", x.state(1), 2);
    Checks.due("it cannot", x.can(1), false);
    Checks.due("none can", x.house(1) * 10 + x.turn(2), -1);
    Checks.due("no TICK", x.step() + x.run(5), -1);
    x.give(1);
    Checks.due("with an INPUT it can", x.can(1), true);
    Checks.due("the one that can", x.house(1) * 10 + x.turn(2), 11);
    x.crash(0, false);
    x.start(0);
    Checks.ticks(x, 3);
    x.send(2, 2);
    Checks.due("with a signal it can", x.can(2), true);
    Checks.ticks(x, 2);
    Checks.due("the handler", x.ofProcess(2, 4), 2);
    Checks.ticks(x, 1);
    Checks.due("WAITING in it", x.waitsIn(2), Checks.token("get"));
    x.send(2, 1);
    x.send(2, 2);
    Checks.due("with signals that are HELD off it cannot", x.can(2), false);
    x.send(2, 3);
    Checks.due("with 3 it can", x.can(2), true);
    Checks.ticks(x, 2);
    Checks.due("who is GONE cannot", x.can(2), false);
    Checks.sentence("with a signal that is to be taken it tells -1 (the signal is not taken by that), otherwise it is done; and it GOES ON.");
    Pagekernel y = Checks.begun("F ( ) { a = get ( & b ) ; a = wait ( & b ) ; }", 1);
    y.give(7);
    y.send(1, 1);
    Checks.ticks(y, 1);
    Checks.due("-1, and nothing is done", y.cell(1, 8) + y.cell(1, 9) + y.inputs(), "-107");
    Checks.due("it has the signal still", y.ofProcess(1, 3) * 10 + y.state(1), 11);
    Checks.ticks(y, 1);
    Checks.due("then it is taken", y.ofProcess(1, 7) * 10 + y.ofProcess(1, 8), 1015);
  }

  private static void idling() {
    Checks.sentence("IDLE of a PROCESS: 0 as it begins; with each TICK of another one 1 more, if it CAN GO ON as that TICK begins, otherwise 0; 0 with each TICK of its own.");
    for (int quantum : new int[] {1, 3, 10}) {
      for (int many = 1; many <= 6; many++) {
        Pagekernel x = Checks.with(LOOP);
        x.quantum(quantum);
        for (int i = 0; i < many; i++) {
          x.start(0);
          Checks.due("as it begins", x.ofProcess(i + 1, 10), 0);
        }
        int most = 0;
        for (int i = 0; i < quantum * (many + 1) && i < 70; i++) {
          x.step();
          most = Math.max(most, x.ofProcess(many, 10));
          Checks.due("its own", x.ofProcess(x.turn(0), 10), 0);
        }
        Checks.due("the most of " + many + " with QUANTUM " + quantum, most, quantum * (many - 1));
        Checks.due("isSound()", x.isSound(), true);
      }
    }
    Checks.sentence("IDLE is never above 50;");
    Pagekernel x = Checks.with("F ( ) { get ( & a ) ; while ( 1 ) ; }");
    Checks.write(x, 1, LOOP);
    x.quantum(10);
    x.start(0);
    for (int i = 0; i < 5; i++) {
      x.start(1);
    }
    x.run(20);
    Checks.due("who WAITS", x.ofProcess(1, 10), 0);
    x.give(1);
    Checks.ticks(x, 1);
    Checks.due("from then on", x.ofProcess(1, 10), 1);
    Checks.ticks(x, 30);
    Checks.due("31", x.ofProcess(1, 10), 31);
    Checks.ticks(x, 1);
    Checks.due("its own", x.turn(0) * 100 + x.ofProcess(1, 10), 100);
    // one that comes to be able and then is not
    Pagekernel y = Checks.with("F ( ) { get ( & a ) ; get ( & a ) ; get ( & a ) ; }");
    y.start(0);
    y.start(0);
    y.run(9);
    y.give(1);
    Checks.due("both can", y.house(1), 2);
    Checks.ticks(y, 1);
    int other = 3 - y.turn(0);
    Checks.due("it could as that TICK began", y.ofProcess(other, 10), 1);
    Checks.due("the INPUT is taken", y.can(other), false);
    Checks.ticks(y, 1);
    Checks.due("then it could not", y.ofProcess(other, 10), 0);
    // by a fork: the child has had none
    Pagekernel z = Checks.with("F ( ) { ; a = fork ( ) ; ; ; ; }");
    z.start(0);
    z.start(0);
    Checks.ticks(z, 2);
    Checks.due("of the other one", z.ofProcess(2, 10), 2);
    Checks.due("of the child", z.ofProcess(3, 10), 0);
    Checks.ticks(z, 1);
    Checks.due("with the next TICK", z.ofProcess(3, 10), 1);
  }

  private static void run() {
    Checks.sentence("TICKS, one behind the other, as long as there is one.");
    for (int many : new int[] {1, 2, 3, 199, 200}) {
      Pagekernel x = Checks.with("F ( ) { get ( & a ) ; while ( a > 1 ) a = a - 1 ; }");
      x.start(0);
      // one for get, two a round, one for the last look
      x.give(many / 2);
      int due = many < 2 ? 2 : 2 * (many / 2 - 1) + 2;
      Checks.due("run(" + many + ")", x.run(many), Math.min(many, due));
      Checks.due("house(6)", x.house(6), Math.min(many, due));
      Checks.due("TICKS", x.ofProcess(1, 6), Math.min(many, due));
    }
    Pagekernel x = Checks.begun(LOOP, 0);
    Checks.due("run(1)", x.run(1), 1);
    Checks.due("run(200)", x.run(200), 200);
    Checks.due("house(6)", x.house(6), 201);
    Checks.sentence("Returns PID of whose it was; NONE, if there was none.");
    Checks.due("step()", x.step(), 1);
    x.send(1, 3);
    Checks.due("the last TICK", x.step(), 1);
    Checks.due("none", x.step(), -1);
    Checks.due("none, and none is counted", x.step() + x.house(6), 202);
  }

  // ---- what is told

  private static void toldOfTheEnded() {
    Checks.sentence("Returns that; of one that is ENDED or GONE for 0, 1, 2, 5 and 6 what it was as it ended (TICKS: with the one in which it ended; FRAMES: as many as there were; 1, if it returned from "
        + "the first one; parent: 0, if that has ended since), for 3, 4, 9 and 10 it is 0.");
    Pagekernel x = Checks.with("F ( ) { ; }");
    Checks.write(x, 3, "H ( a ) { grow ( 3 ) ; pipe ( x ) ; G ( ) ; } G ( ) { while ( 1 ) ; } F ( ) { a = fork ( ) ; if ( a ) { get ( y ) ; wait ( 0 ) ; get ( y ) ; return 1 ; } on ( 1 , 2 ) ; "
        + "on ( 2 , 2 ) ; a = pid ( ) ; kill ( a , 1 ) ; ; }");
    x.start(3);
    x.run(100);
    x.send(2, 2);
    x.run(5);
    int[] live = {1, 3, 35, 2, 1, 3, 0, 0, 0, 2, 0, 1};
    int ticks = x.ofProcess(2, 6);
    for (int what = 0; what <= 11; what++) {
      if (what != 6) {
        Checks.due("ofProcess(2, " + what + ")", x.ofProcess(2, what), live[what]);
      }
    }
    x.send(2, 3);
    x.run(1);
    int[] ended = {1, 3, 35, 0, 0, 3, ticks + 1, 103, 5, 0, 0, 1};
    Checks.due("STATE", x.state(2), 3);
    for (int what = 0; what <= 11; what++) {
      Checks.due("ofProcess(2, " + what + ") of one that is ENDED", x.ofProcess(2, what), ended[what]);
    }
    noneOf(x, 2);
    x.give(1);
    x.run(10);
    Checks.due("STATE", x.state(2), 4);
    ended[11] = -1;
    for (int what = 0; what <= 11; what++) {
      Checks.due("ofProcess(2, " + what + ") of one that is GONE", x.ofProcess(2, what), ended[what]);
    }
    noneOf(x, 2);
    x.give(1);
    x.run(10);
    ended[0] = 0;
    for (int what = 0; what <= 11; what++) {
      Checks.due("ofProcess(2, " + what + ") without a parent", x.ofProcess(2, what), ended[what]);
    }
    noneOf(x, 1);
  }

  private static void noneOf(Pagekernel x, int pid) {
    Checks.sentence("\"-\", if that is not OWN, or the PROCESS is ENDED or GONE.");
    for (int address : new int[] {0, 8, 31, 32, 95}) {
      Checks.due("cell", x.cell(pid, address), "-");
    }
    Checks.sentence("\"-\", if it is not LOCAL there, there is no such FRAME, or the PROCESS is ENDED or GONE.");
    for (int frame = 0; frame < 3; frame++) {
      Checks.due("local", x.local(pid, frame, 0), "-");
      Checks.due("function", x.function(pid, frame), -1);
    }
    Checks.sentence("\"-\" nowhere (or the PROCESS is ENDED or GONE);");
    for (int descriptor = 0; descriptor < 6; descriptor++) {
      Checks.due("descriptor", x.descriptor(pid, descriptor), "-");
    }
    Checks.sentence("NONE, if it is ENDED or GONE.");
    Checks.due("where", x.where(pid), -1);
    Checks.due("handlers", x.handler(pid, 1) + x.handler(pid, 2), -2);
    Checks.sentence("Returns the TOKEN of the SERVICE in which it WAITS; NONE, if it is not WAITING.");
    Checks.due("waitsIn", x.waitsIn(pid), -1);
    Checks.due("can", x.can(pid), false);
    Checks.due("children", x.children(pid), "");
    Checks.due("press", x.press(pid), 0);
    Checks.due("send", x.send(pid, 1), 0);
  }

  private static void places() {
    Checks.sentence("Returns the place in its TEXT of the first TOKEN of the STATEMENT that begins next, or in which it WAITS;");
    String[] statements = {";", "if ( 1 ) ;", "while ( 0 ) ;", "a = 1 ;", "x [ 1 ] = 2 ;", "* 8 = 3 ;", "put ( 1 ) ;", "a = put ( 1 ) ;", "G ( ) ;", "a = G ( ) ;", "return ;"};
    for (String statement : statements) {
      Pagekernel x = Checks.begun("G ( ) { } F ( ) { { { " + statement + " } } }", 0);
      Checks.due("where " + statement, x.where(1), 11);
    }
    waitsAt("F ( ) { { get ( y ) ; } }", "get", 5);
    waitsAt("F ( ) { if ( 1 ) { a = get ( y ) ; } }", "get", 9);
    waitsAt("F ( ) { b = fork ( ) ; if ( b == 0 ) while ( 1 ) ; a = wait ( 0 ) ; }", "wait", 21);
    waitsAt("F ( ) { pipe ( x ) ; { read ( 0 , y ) ; } }", "read", 10);
    waitsAt("F ( ) { pipe ( x ) ; while ( 1 ) { write ( 1 , 1 ) ; } }", "write", 14);
    Pagekernel x = Checks.begun(LOOP, 1);
    Checks.due("waitsIn of who is READY", x.waitsIn(1), -1);
  }

  private static void waitsAt(String text, String service, int place) {
    Pagekernel x = Checks.begun(text, 0);
    x.run(40);
    Checks.due("STATE in " + text, x.state(1), 2);
    Checks.due("waitsIn in " + text, x.waitsIn(1), Checks.token(service));
    Checks.due("where in " + text, x.where(1), place);
  }

  private static void childrenRising() {
    Checks.sentence("Returns PIDS of its children that are READY, WAITING or ENDED, rising, with a blank between two; \"\" without any.");
    Pagekernel x = Checks.begun(FAMILY, 0);
    Checks.due("none", x.children(1), "");
    x.run(60);
    Checks.due("not in the order of SLOTS", x.children(1), "3 4 5");
    Checks.due("STATES of them", Checks.states(x).substring(2), "312");
    Checks.due("none of theirs", x.children(3) + x.children(4) + x.children(5), "");
    Checks.due("none of who is GONE", x.children(2), "");
    Pagekernel y = Checks.begun("F ( ) { while ( a < 5 ) { a = a + 1 ; b = fork ( ) ; if ( b == 0 ) while ( 1 ) ; } while ( 1 ) ; }", 0);
    y.run(200);
    Checks.due("five", y.children(1), "2 3 4 5 6");
  }

  private static void signalsSent() {
    Checks.sentence("A PROCESS has signals 1, 2 and 3, each at most once.");
    Pagekernel x = Checks.begun(LOOP, 1);
    int signals = 0;
    for (int signal : new int[] {2, 2, 1, 3, 1, 3}) {
      Checks.due("send", x.send(1, signal), 1);
      signals |= 1 << signal - 1;
      Checks.due("signals", x.ofProcess(1, 3), signals);
    }
    Checks.ticks(x, 1);
    Checks.due("by 3", x.ofProcess(1, 7), 103);
  }

  public static void main(String[] arguments) {
    sixSlots();
    endedOnesHaveTheirSlots();
    sixtyPids();
    endOfAFamily();
    nothingToBegin();
    returns();
    manyStatements();
    eachQuantum();
    quantumChanges();
    waitersAndTurns();
    idling();
    run();
    toldOfTheEnded();
    places();
    childrenRising();
    signalsSent();
    Checks.end();
  }
}
