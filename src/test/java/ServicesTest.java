/** Sections 4 and 5: each SERVICE, what it tells, when it WAITS, and signals with their handlers. */
public final class ServicesTest {
  private static void forking() {
    Checks.due("who is who", Checks.outs("F ( ) { int b ; a = 7 ; b = fork ( ) ; a = a + b ; put ( a ) ; put ( b ) ; }"), "2:7 2:0 1:9 1:2");
    // the child goes on first, and may end in the same TICK
    Pagekernel x = Checks.begun("F ( ) { a = fork ( ) ; }", 1);
    Checks.due("both are GONE", "" + x.state(1) + x.state(2), "44");
    Checks.due("TICKS", x.ofProcess(1, 6) + x.ofProcess(2, 6), 1);
    Checks.due("parent", x.ofProcess(2, 0), 0);
    Pagekernel y = Checks.begun("F ( ) { G ( ) ; a = 5 ; wait ( & b ) ; put ( b ) ; } G ( ) { a = fork ( ) ; if ( a == 0 ) return 7 ; }", 2);
    Checks.due("where both are", y.where(1) * 100 + y.where(2), 3434);
    Checks.due("FRAMES", y.ofProcess(2, 1), 2);
    Checks.due("a of each", y.cell(1, 8) + y.cell(2, 8), "20");
    Checks.due("IDLE of the child", y.ofProcess(2, 10), 0);
    // descriptors, handlers, BREAK and MEMORY, but no signals
    Pagekernel z = Checks.begun("I ( a ) { } F ( ) { pipe ( x ) ; open ( 2 , 3 ) ; grow ( 4 ) ; y [ 8 ] = 3 ; on ( 2 , 3 ) ; kill ( 1 , 1 ) ; fork ( ) ; get ( y ) ; }", 5);
    z.send(1, 2);
    z.send(1, 1);
    Checks.due("signals", z.ofProcess(1, 3), 3);
    Checks.ticks(z, 1);
    Checks.due("by 1", z.ofProcess(1, 7), 101);
    Pagekernel w = Checks.begun("I ( a ) { fork ( ) ; get ( y ) ; } F ( ) { pipe ( x ) ; open ( 2 , 3 ) ; grow ( 4 ) ; y [ 8 ] = 3 ; on ( 2 , 3 ) ; get ( y ) ; put ( 5 ) ; }", 6);
    w.send(1, 2);
    Checks.ticks(w, 2);
    Checks.due("in the handler", w.function(1, 1), 3);
    w.send(1, 2);
    w.send(1, 1);
    Checks.ticks(w, 1);
    Checks.due("HELD of the child", w.ofProcess(2, 4), 2);
    Checks.due("signals of the child", w.ofProcess(2, 3), 0);
    Checks.due("handlers of the child", w.handler(2, 1) * 10 + w.handler(2, 2), 3);
    Checks.due("BREAK of the child", w.ofProcess(2, 2), 36);
    Checks.due("cell of the child", w.cell(2, 32), "3");
    Checks.due("descriptors of the child", w.descriptor(2, 0) + w.descriptor(2, 1) + w.descriptor(2, 2), "r0w0f2@0:3");
    Checks.due("OPENINGS are the same", w.house(13), 3);
    Checks.due("DESCRIPTORS that lead there", w.ofPipe(0, 1) + w.ofPipe(0, 2), 4);
    Checks.due("PROGRAM of the child", w.ofProcess(2, 5), 0);
    Checks.due("TICKS of the child", w.ofProcess(2, 6), 0);
    // a child of a handler returns from it too
    Pagekernel u = Checks.begun("H ( a ) { fork ( ) ; } F ( ) { G ( 1 ) ; } G ( b ) { on ( 1 , 2 ) ; kill ( 1 , 1 ) ; while ( 1 ) c = c + 1 ; }", 5);
    Checks.due("FRAMES", u.ofProcess(1, 1) * 10 + u.ofProcess(2, 1), 22);
    Checks.due("HELD", u.ofProcess(1, 4) + u.ofProcess(2, 4), 0);
    Checks.due("where", u.where(1) * 100 + u.where(2), 3939);
    u.send(2, 1);
    u.run(9);
    Checks.due("and it takes the next signal", u.state(3), 1);
    // six PROCESSES, ENDED ones with them
    Checks.due("no seventh", Checks.outs("F ( ) { while ( b > - 1 ) { b = fork ( ) ; if ( b == 0 ) exit ( 1 ) ; a = a + 1 ; } put ( a ) ; }"), "1:6");
    Checks.due("60 PIDS", Checks.outs("F ( ) { while ( b > - 1 ) { b = fork ( ) ; if ( b == 0 ) return 1 ; c = wait ( 0 ) ; if ( c > 0 ) a = c ; } put ( a ) ; }").length(), 0);
    Pagekernel v = Checks.begun("F ( ) { while ( b > - 1 ) { b = fork ( ) ; if ( b == 0 ) return 1 ; wait ( & c ) ; } put ( 3 ) ; }", 0);
    while (v.run(200) > 0) {
      Checks.due("few PIDS", v.house(8) <= 60, true);
    }
    Checks.due("PIDS given", v.house(8), 60);
    Checks.due("what it put", v.out(0), "1:3");
  }

  private static void execing() {
    Pagekernel x = new Pagekernel();
    Checks.write(x, 0, "I ( a ) { int b ; b = exec ( 4 ) ; put ( b ) ; b = exec ( - 1 ) ; put ( b ) ; b = exec ( 2 ) ; put ( b ) ; exec ( 1 ) ; put ( 9 ) ; } "
        + "F ( ) { on ( 1 , 3 ) ; on ( 2 , 3 ) ; pipe ( x ) ; grow ( 9 ) ; c = 3 ; kill ( 1 , 1 ) ; ; }");
    Checks.write(x, 1, "H ( a ) { } F ( ) { put ( c ) ; put ( x [ 1 ] ) ; a = grow ( 0 ) ; put ( a ) ; get ( y ) ; put ( 7 ) ; }");
    x.start(0);
    Checks.ticks(x, 7);
    Checks.due("HELD", x.ofProcess(1, 4), 1);
    x.send(1, 2);
    Checks.ticks(x, 6);
    Checks.due("-1 thrice", x.out(0), "1:-1 1:-1 1:-1");
    Checks.due("PROGRAM before", x.ofProcess(1, 5), 0);
    Checks.ticks(x, 1);
    Checks.due("PROGRAM then", x.ofProcess(1, 5), 1);
    Checks.due("FRAMES then", x.ofProcess(1, 1), 1);
    Checks.due("BREAK then", x.ofProcess(1, 2), 32);
    Checks.due("HELD then", x.ofProcess(1, 4), 0);
    Checks.due("signals stay", x.ofProcess(1, 3), 2);
    Checks.due("handlers then", x.handler(1, 1) + x.handler(1, 2), 0);
    Checks.due("DESCRIPTORS stay", x.descriptor(1, 0) + x.descriptor(1, 1), "r0w0");
    Checks.due("cells then", x.cell(1, 10) + x.cell(1, 17), "00");
    Checks.due("where then", x.where(1), 10);
    Checks.due("TICKS stay", x.ofProcess(1, 6), 14);
    Checks.ticks(x, 1);
    Checks.due("2 without a handler", x.ofProcess(1, 7), 102);
    // a text that changed meanwhile, and one that ends at once
    Pagekernel y = Checks.begun("F ( ) { ; exec ( 0 ) ; }", 1);
    Checks.write(y, 0, "F ( ) { put ( 3 ) ; exec ( 3 ) ; put ( 4 ) ; }");
    Checks.write(y, 3, "F ( ) { }");
    y.run(200);
    Checks.due("the new text", y.out(0), "1:3");
    Checks.due("an end at once", y.state(1), 4);
    Checks.due("WHY", y.ofProcess(1, 8), 1);
    Checks.due("PROGRAM", y.ofProcess(1, 5), 3);
    Checks.due("TICKS", y.ofProcess(1, 6), 4);
  }

  private static void waiting() {
    Checks.due("no children", Checks.outs("F ( ) { b = 5 ; a = wait ( & b ) ; put ( a ) ; put ( b ) ; }"), "1:-1 1:5");
    Checks.due("the smallest PID first", Checks.outs("F ( ) { int a ; while ( a < 3 ) { b = fork ( ) ; if ( b == 0 ) exit ( a + 4 ) ; a = a + 1 ; } "
        + "while ( c < 9 ) { pause ( ) ; c = c + 1 ; } b = wait ( x ) ; put ( b ) ; put ( x [ 0 ] ) ; b = wait ( 0 ) ; put ( b ) ; put ( x [ 0 ] ) ; b = wait ( & b ) ; put ( b ) ; "
        + "b = wait ( & b ) ; put ( b ) ; }"), "1:2 1:4 1:3 1:4 1:4 1:-1");
    Pagekernel x = Checks.begun("F ( ) { b = fork ( ) ; if ( b ) { c = wait ( & d ) ; put ( c ) ; } else get ( & a ) ; }", 2);
    x.step();
    x.run(2);
    Checks.due("it WAITS", x.state(1), 2);
    Checks.due("can", x.can(1), false);
    x.send(2, 1);
    Checks.due("can still not", x.can(1), false);
    Checks.ticks(x, 1);
    Checks.due("its child", x.state(2), 3);
    Checks.due("can then", x.can(1), true);
    Checks.ticks(x, 1);
    Checks.due("its child is GONE", x.state(2), 4);
    Checks.due("parent of who is GONE", x.ofProcess(2, 0), 1);
    Checks.due("children", x.children(1), "");
    Checks.due("stored", x.cell(1, 11), "0");
    x.run(10);
    Checks.due("put", x.out(0), "1:2");
    Checks.due("parent when that ended too", x.ofProcess(2, 0), 0);
    // children of one that ended have nobody
    Pagekernel y = Checks.begun("F ( ) { fork ( ) ; a = fork ( ) ; if ( a == 0 ) get ( y ) ; else if ( a == 3 ) while ( 1 ) ; else get ( y ) ; }", 0);
    y.run(30);
    Checks.due("children", y.children(1) + "/" + y.children(2), "2 3/4");
    y.send(1, 3);
    y.run(3);
    Checks.due("parents", "" + y.ofProcess(2, 0) + y.ofProcess(3, 0) + y.ofProcess(4, 0), "002");
  }

  private static void exiting() {
    Pagekernel x = Checks.begun("G ( ) { pipe ( x ) ; exit ( 5 - 9 ) ; put ( 1 ) ; } F ( ) { G ( ) ; put ( 2 ) ; }", 0);
    x.run(200);
    Checks.due("CODE", x.ofProcess(1, 7), -4);
    Checks.due("WHY", x.ofProcess(1, 8), 1);
    Checks.due("FRAMES", x.ofProcess(1, 1), 2);
    Checks.due("OUTS", x.out(0), "");
    Checks.due("PIPES", x.house(2), 0);
    Checks.due("OPENINGS", x.house(13), 0);
  }

  private static void piping() {
    Pagekernel x = Checks.begun("F ( ) { a = pipe ( x ) ; b = pipe ( x + 2 ) ; c = pipe ( x + 4 ) ; d = pipe ( x + 6 ) ; get ( y ) ; "
        + "close ( 1 ) ; close ( 4 ) ; e = pipe ( y ) ; close ( 1 ) ; f = pipe ( y + 2 ) ; get ( y + 7 ) ; }", 5);
    Checks.due("what it told", x.cell(1, 8) + x.cell(1, 9) + x.cell(1, 10) + x.cell(1, 11), "000-1");
    for (int i = 0; i < 6; i++) {
      Checks.due("descriptor " + i, x.descriptor(1, i), (i % 2 == 0 ? "r" : "w") + i / 2);
      Checks.due("stored " + i, x.cell(1, 16 + i), "" + i);
    }
    Checks.due("not stored", x.cell(1, 22) + x.cell(1, 23), "00");
    Checks.due("PIPES", x.house(2), 3);
    x.give(1);
    Checks.ticks(x, 7);
    Checks.due("in the free ones", x.descriptor(1, 1) + x.descriptor(1, 4), "-w3");
    Checks.due("e", x.cell(1, 12), "0");
    Checks.due("y", x.cell(1, 24) + x.cell(1, 25), "14");
    Checks.due("one free is too few", x.cell(1, 13), "-1");
    Checks.due("one end is enough for a PIPE", x.ofPipe(0, 1) * 10 + x.ofPipe(0, 2), 10);
    Checks.due("PIPE 3", x.ofPipe(3, 1) * 10 + x.ofPipe(3, 2), 1);
    // four PIPES, by two PROCESSES
    Pagekernel y = Checks.begun("F ( ) { fork ( ) ; a = pipe ( x ) ; b = pipe ( x ) ; c = pipe ( x ) ; get ( y ) ; }", 0);
    y.run(30);
    Checks.due("told to 1", y.cell(1, 8) + y.cell(1, 9) + y.cell(1, 10), "00-1");
    Checks.due("told to 2", y.cell(2, 8) + y.cell(2, 9) + y.cell(2, 10), "00-1");
    Checks.due("PIPES", y.house(2), 4);
    y.send(1, 3);
    Checks.ticks(y, 1);
    Checks.due("PIPES of one that ended", y.house(2), 2);
    Checks.due("0 and 1 are gone", "" + y.ofPipe(0, 0) + y.ofPipe(1, 0) + y.ofPipe(2, 0) + y.ofPipe(3, 0), "-1-100");
  }

  private static void pipeCells() {
    Pagekernel x = Checks.begun("F ( ) { pipe ( x ) ; fork ( ) ; a = pid ( ) ; if ( a == 1 ) while ( b < 6 ) { c = write ( 1 , b * b + 1 ) ; b = b + 1 ; } "
        + "else { get ( y ) ; while ( c < 9 ) { d = read ( 0 , x + b ) ; b = b + 1 ; get ( y ) ; } } }", 0);
    x.run(60);
    Checks.due("four cells", x.inPipe(0), "1 2 5 10");
    Checks.due("how many", x.ofPipe(0, 0), 4);
    Checks.due("the fifth WAITS", x.waitsIn(1), Checks.token("write"));
    x.give(0);
    x.run(60);
    Checks.due("one less, one more", x.inPipe(0), "2 5 10 17");
    Checks.due("read", x.cell(2, 16), "1");
    Checks.due("d", x.cell(2, 11), "1");
    for (int i = 0; i < 4; i++) {
      x.give(0);
      x.run(60);
    }
    Checks.due("the writer is ENDED or GONE", x.state(1), 4);
    Checks.due("the last one", x.inPipe(0), "26");
    Checks.due("its own end is open", x.ofPipe(0, 2), 1);
    x.give(0);
    x.run(60);
    x.give(0);
    x.run(60);
    Checks.due("now it WAITS for itself", x.waitsIn(2), Checks.token("read"));
    x.send(2, 1);
    x.run(1);
    Checks.due("-1 by a signal", x.cell(2, 11), "-1");
    x.run(9);
    Checks.due("and it ended", x.ofProcess(2, 7), 101);
    // without readers, without writers
    Checks.due("alone", Checks.outs("F ( ) { pipe ( x ) ; a = write ( 1 , 5 ) ; a = write ( 1 , 6 ) ; close ( 1 ) ; a = read ( 0 , & b ) ; put ( a ) ; put ( b ) ; a = read ( 0 , & b ) ; "
        + "put ( a ) ; put ( b ) ; a = read ( 0 , & b ) ; put ( a ) ; put ( b ) ; }"), "1:1 1:5 1:1 1:6 1:0 1:6");
    Checks.due("no reader", Checks.outs("F ( ) { pipe ( x ) ; a = write ( 1 , 5 ) ; close ( 0 ) ; b = write ( 1 , 6 ) ; put ( a ) ; put ( b ) ; }"), "1:1 1:-1");
    Checks.due("the wrong ends", Checks.outs("F ( ) { pipe ( x ) ; a = write ( 0 , 5 ) ; put ( a ) ; a = read ( 1 , & b ) ; put ( a ) ; a = read ( 2 , & b ) ; put ( a ) ; a = write ( 6 , 1 ) ; "
        + "put ( a ) ; a = write ( - 1 , 1 ) ; put ( a ) ; a = read ( 6 , & b ) ; put ( a ) ; a = read ( - 1 , & b ) ; put ( a ) ; }"), "1:-1 1:-1 1:-1 1:-1 1:-1 1:-1 1:-1");
    Checks.due("NAME behind the cell", Checks.outs("F ( ) { pipe ( x ) ; write ( 1 , 9 ) ; a = read ( 0 , & a ) ; put ( a ) ; }"), "1:1");
    // who WAITS goes on when the other end is closed
    Pagekernel y = Checks.begun("F ( ) { pipe ( x ) ; a = fork ( ) ; if ( a ) { close ( 0 ) ; while ( b > - 1 ) { b = write ( 1 , 3 ) ; c = c + 1 ; } } else { close ( 1 ) ; get ( y ) ; } }", 0);
    y.run(60);
    Checks.due("it WAITS", y.waitsIn(1), Checks.token("write"));
    y.send(2, 3);
    Checks.ticks(y, 2);
    Checks.due("can then", y.can(1), true);
    Checks.ticks(y, 1);
    Checks.due("-1", y.cell(1, 9), "-1");
    Pagekernel z = Checks.begun("F ( ) { pipe ( x ) ; a = fork ( ) ; if ( a ) { close ( 1 ) ; b = 7 ; b = read ( 0 , & c ) ; put ( b ) ; } else { close ( 0 ) ; get ( y ) ; } }", 0);
    z.run(60);
    Checks.due("it WAITS", z.waitsIn(1), Checks.token("read"));
    z.give(0);
    z.run(60);
    Checks.due("0 then", z.out(0), "1:0");
  }

  private static void fileCells() {
    Checks.due("modes", Checks.outs("F ( ) { a = open ( 1 , 0 ) ; put ( a ) ; a = open ( 8 , 1 ) ; put ( a ) ; a = open ( - 1 , 1 ) ; put ( a ) ; a = open ( 1 , 4 ) ; put ( a ) ; a = open ( 1 , - 1 ) ; "
        + "put ( a ) ; a = open ( 1 , 1 ) ; put ( a ) ; a = open ( 1 , 0 ) ; put ( a ) ; a = open ( 2 , 0 ) ; put ( a ) ; }"), "1:-1 1:-1 1:-1 1:-1 1:-1 1:0 1:1 1:-1");
    Checks.due("no free one", Checks.outs("F ( ) { while ( a < 6 ) { b = open ( 0 , 3 ) ; a = a + 1 ; } put ( b ) ; b = open ( 0 , 0 ) ; put ( b ) ; b = open ( 7 , 1 ) ; put ( b ) ; close ( 2 ) ; "
        + "b = close ( 2 ) ; put ( b ) ; b = open ( 0 , 0 ) ; put ( b ) ; b = close ( 6 ) ; put ( b ) ; b = close ( - 1 ) ; put ( b ) ; b = close ( 0 ) ; put ( b ) ; }"),
        "1:5 1:-1 1:-1 1:-1 1:2 1:-1 1:-1 1:0");
    Checks.due("cells over cells", Checks.outs("F ( ) { open ( 1 , 1 ) ; write ( 0 , 3 ) ; write ( 0 , 4 ) ; write ( 0 , 5 ) ; open ( 1 , 1 ) ; a = write ( 1 , 9 ) ; put ( a ) ; open ( 1 , 0 ) ; "
        + "while ( b > - 1 ) { b = read ( 2 , & c ) ; put ( b ) ; put ( c ) ; if ( b == 0 ) break ; } a = read ( 0 , & c ) ; put ( a ) ; a = write ( 2 , 1 ) ; put ( a ) ; }"),
        "1:1 1:1 1:9 1:1 1:4 1:1 1:5 1:0 1:5 1:-1 1:-1");
    // mode 3: always at the end
    Pagekernel x = Checks.begun("F ( ) { open ( 1 , 1 ) ; open ( 1 , 3 ) ; write ( 0 , 1 ) ; write ( 0 , 2 ) ; write ( 1 , 3 ) ; write ( 0 , 4 ) ; write ( 1 , 5 ) ; get ( y ) ; open ( 1 , 2 ) ; "
        + "write ( 0 , 6 ) ; get ( y ) ; while ( a < 15 ) { b = write ( 0 , 7 ) ; a = a + 1 ; } put ( b ) ; b = write ( 0 , 8 ) ; put ( b ) ; b = write ( 1 , 9 ) ; put ( b ) ; get ( y ) ; }", 7);
    Checks.due("inFile", x.inFile(1), "1 2 4 5");
    Checks.due("positions", x.descriptor(1, 0) + " " + x.descriptor(1, 1), "f1@3:1 f1@4:3");
    Checks.due("ACTS", x.house(5), 6);
    x.give(0);
    Checks.ticks(x, 2);
    Checks.due("emptied: all positions are 0", x.descriptor(1, 0) + " " + x.descriptor(1, 1) + " " + x.descriptor(1, 2), "f1@0:1 f1@0:3 f1@0:2");
    Checks.due("inFile", x.inFile(1), "");
    Checks.due("size", x.size(1), 0);
    Checks.due("ACTS", x.house(5), 7);
    Checks.ticks(x, 2);
    x.give(0);
    x.run(200);
    Checks.due("sixteen and no more", x.out(0), "1:1 1:-1 1:-1");
    Checks.due("size", x.size(1), 16);
    Checks.due("positions", x.descriptor(1, 0) + " " + x.descriptor(1, 1), "f1@16:1 f1@16:3");
    Checks.due("inFile", x.inFile(1), "6 7 7 7 7 7 7 7 7 7 7 7 7 7 7 7");
    // a forked one has the same position
    Checks.due("one position", Checks.outs("F ( ) { open ( 0 , 2 ) ; write ( 0 , 4 ) ; write ( 0 , 5 ) ; open ( 0 , 0 ) ; a = fork ( ) ; if ( a ) wait ( 0 ) ; read ( 1 , & b ) ; put ( b ) ; }"),
        "2:4 1:5");
    // a mode 2 of an empty FILE is no ACT, a mode 1 of one that is there neither
    Pagekernel y = Checks.begun("F ( ) { open ( 5 , 2 ) ; open ( 5 , 2 ) ; open ( 5 , 1 ) ; open ( 5 , 3 ) ; open ( 5 , 0 ) ; get ( y ) ; }", 5);
    Checks.due("ACTS", y.house(5), 1);
    // BODIES without a name
    Pagekernel z = Checks.begun("F ( ) { a = unlink ( 3 ) ; put ( a ) ; open ( 3 , 1 ) ; open ( 3 , 0 ) ; a = unlink ( 3 ) ; put ( a ) ; a = write ( 0 , 6 ) ; put ( a ) ; read ( 1 , & b ) ; put ( b ) ; "
        + "open ( 3 , 1 ) ; close ( 0 ) ; get ( y ) ; close ( 1 ) ; a = unlink ( 8 ) ; put ( a ) ; a = unlink ( - 1 ) ; put ( a ) ; get ( y ) ; }", 0);
    z.run(200);
    Checks.due("told", z.out(0), "1:-1 1:0 1:1 1:6");
    Checks.due("BODIES", z.house(4), 2);
    Checks.due("FILES", z.house(3), 1);
    Checks.due("ACTS", z.house(5), 4);
    z.give(0);
    z.run(200);
    Checks.due("BODIES", z.house(4), 1);
    Checks.due("told", z.out(4), "1:-1 1:-1");
    Checks.due("ACTS", z.house(5), 4);
  }

  private static void twelveBodies() {
    Pagekernel x = new Pagekernel();
    Checks.write(x, 0, "F ( ) { while ( a < 6 ) { open ( a , 1 ) ; unlink ( a ) ; a = a + 1 ; } get ( y ) ; b = open ( 7 , 1 ) ; close ( 0 ) ; c = open ( 7 , 1 ) ; get ( y ) ; }");
    x.start(0);
    x.run(200);
    Checks.due("BODIES", x.house(4), 6);
    for (int name = 0; name < 6; name++) {
      Checks.due("store", x.store(name, name), 1);
    }
    Checks.due("BODIES", x.house(4), 12);
    long before = x.digest();
    Checks.due("a 13th", x.store(6, 1), -9);
    Checks.due("nothing changed", x.digest(), before);
    Checks.due("one that is there", x.store(5, 1), 2);
    Pagekernel y = new Pagekernel();
    Checks.write(y, 0, "F ( ) { while ( a < 5 ) { open ( a , 1 ) ; unlink ( a ) ; a = a + 1 ; } get ( y ) ; b = open ( 7 , 1 ) ; d = open ( 2 , 1 ) ; close ( 0 ) ; close ( 5 ) ; c = open ( 7 , 1 ) ; get ( y ) ; }");
    y.start(0);
    y.run(200);
    for (int name = 0; name < 7; name++) {
      y.store(name, 1);
    }
    Checks.due("BODIES", y.house(4), 12);
    y.give(0);
    y.run(200);
    Checks.due("open a 13th", y.cell(1, 9), "-1");
    Checks.due("open one that is there", y.cell(1, 11), "5");
    Checks.due("open with room", y.cell(1, 10), "0");
    Checks.due("BODIES", y.house(4), 12);
  }

  private static void others() {
    Checks.due("kill", Checks.outs("F ( ) { a = kill ( 1 , 0 ) ; put ( a ) ; a = kill ( 1 , 4 ) ; put ( a ) ; a = kill ( 2 , 1 ) ; put ( a ) ; a = kill ( 0 , 1 ) ; put ( a ) ; a = kill ( 1 , 2 ) ; put ( a ) ; }"),
        "1:-1 1:-1 1:-1 1:-1");
    Checks.due("kill an ENDED one", Checks.outs("F ( ) { a = fork ( ) ; if ( a == 0 ) exit ( 0 ) ; pause ( ) ; pause ( ) ; b = kill ( 2 , 3 ) ; put ( b ) ; b = wait ( 0 ) ; b = kill ( 2 , 3 ) ; put ( b ) ; }"),
        "1:-1 1:-1");
    Checks.due("put tells", Checks.outs("F ( ) { a = put ( 5 - 9 ) ; put ( a ) ; }"), "1:-4 1:-4");
    Pagekernel w = Checks.begun("F ( ) { while ( a < 19 * 19 ) { pid ( ) ; pause ( ) ; a = a + 1 ; } put ( a + 1 ) ; }", 0);
    for (int i = 0; i < 8; i++) {
      w.run(200);
    }
    Checks.due("what is told to nobody leaves nothing behind", w.out(0), "1:362");
    Checks.due("pid tells", Checks.outs("F ( ) { a = fork ( ) ; a = pid ( ) ; put ( a ) ; }"), "1:1 2:2");
    Checks.due("pause tells", Checks.outs("F ( ) { a = 5 ; a = pause ( ) ; put ( a ) ; }"), "1:0");
    Checks.due("sync tells", Checks.outs("F ( ) { open ( 1 , 1 ) ; write ( 0 , 5 ) ; a = sync ( ) ; put ( a ) ; a = sync ( ) ; put ( a ) ; }"), "1:2 1:0");
    Checks.due("grow", Checks.outs("F ( ) { a = grow ( 0 ) ; put ( a ) ; a = grow ( - 1 ) ; put ( a ) ; a = grow ( 8 * 8 ) ; put ( a ) ; a = grow ( 1 ) ; put ( a ) ; * ( 5 * 19 ) = 4 ; a = grow ( - 1 ) ; put ( a ) ; "
        + "a = grow ( 1 ) ; put ( a ) ; put ( * ( 5 * 19 ) ) ; a = grow ( - 8 * 8 ) ; put ( a ) ; a = grow ( 16 * 16 * 16 * 16 * 16 * 16 * 16 * 8 - 1 ) ; put ( a ) ; }"),
        "1:32 1:-1 1:32 1:-1 1:96 1:95 1:0 1:96 1:-1");
    Pagekernel x = Checks.begun("F ( ) { grow ( 19 ) ; y [ 8 ] = 1 ; y [ 15 ] = 2 ; y [ 16 ] = 3 ; y [ 18 ] = 4 ; grow ( - 9 ) ; grow ( 9 ) ; get ( y ) ; }", 7);
    Checks.due("cells that stay", x.cell(1, 32) + x.cell(1, 39) + x.cell(1, 40), "123");
    Checks.due("a cell that went", x.cell(1, 42), "0");
    // get
    Pagekernel y = Checks.begun("F ( ) { a = get ( x ) ; put ( a ) ; a = get ( & a ) ; put ( a ) ; put ( x [ 0 ] ) ; }", 1);
    Checks.due("it WAITS", y.state(1), 2);
    y.give(-6);
    y.give(7);
    Checks.due("inputs", y.inputs(), "-6 7");
    Checks.ticks(y, 1);
    Checks.due("inputs", y.inputs(), "7");
    y.run(9);
    Checks.due("put", y.out(0), "1:1 1:1 1:-6");
  }

  private static void signals() {
    // on()
    Checks.due("on", Checks.outs("G ( a ) { } H ( ) { } I ( a , b ) { } F ( ) { a = on ( 1 , 1 ) ; put ( a ) ; a = on ( 1 , 0 ) ; put ( a ) ; a = on ( 1 , 2 ) ; put ( a ) ; a = on ( 1 , 3 ) ; put ( a ) ; }"),
        "1:0 1:1 1:-1 1:-1");
    Checks.due("on", Checks.outs("G ( a ) { } F ( ) { a = on ( 3 , 1 ) ; put ( a ) ; a = on ( 0 , 1 ) ; put ( a ) ; a = on ( 2 , 4 ) ; put ( a ) ; a = on ( 2 , - 1 ) ; put ( a ) ; a = on ( 3 , 0 ) ; put ( a ) ; a = on ( 2 , 1 ) ; put ( a ) ; "
        + "a = on ( 2 , 1 ) ; put ( a ) ; }"), "1:-1 1:-1 1:-1 1:-1 1:-1 1:0 1:1");
    Checks.due("on without that FUNCTION", Checks.outs("F ( ) { a = on ( 1 , 1 ) ; put ( a ) ; }"), "1:-1");
    // the smaller one first, one at a time, and back to where it rested
    Pagekernel x = Checks.begun("H ( a ) { int b ; put ( a ) ; b = get ( y ) ; return 9 ; } F ( ) { on ( 1 , 2 ) ; on ( 2 , 2 ) ; while ( 1 ) ; }", 2);
    int rest = x.where(1);
    x.send(1, 2);
    x.send(1, 1);
    Checks.due("signals", x.ofProcess(1, 3), 3);
    Checks.ticks(x, 1);
    Checks.due("signals", x.ofProcess(1, 3), 2);
    Checks.due("HELD", x.ofProcess(1, 4), 1);
    Checks.due("parameter", x.local(1, 1, 0) + x.local(1, 1, 1), "10");
    Checks.due("function", x.function(1, 1), 2);
    Checks.due("where", x.where(1), 8);
    x.send(1, 1);
    Checks.ticks(x, 2);
    Checks.due("it WAITS, the others are HELD off", x.can(1), false);
    x.give(4);
    Checks.ticks(x, 2);
    Checks.due("back", x.where(1), rest);
    Checks.due("HELD", x.ofProcess(1, 4), 0);
    Checks.due("FRAMES", x.ofProcess(1, 1), 1);
    Checks.ticks(x, 1);
    Checks.due("1 again, ahead of 2", x.ofProcess(1, 4), 1);
    x.send(1, 3);
    Checks.ticks(x, 1);
    Checks.due("3 also then", x.ofProcess(1, 7), 103);
    Checks.due("FRAMES", x.ofProcess(1, 1), 2);
    // an empty handler takes its TICK
    Pagekernel y = Checks.begun("H ( a ) { } F ( ) { on ( 1 , 2 ) ; a = 5 ; a = 6 ; }", 1);
    y.send(1, 1);
    Checks.ticks(y, 1);
    Checks.due("where", y.where(1), 17);
    Checks.due("HELD", y.ofProcess(1, 4), 0);
    Checks.due("signals", y.ofProcess(1, 3), 0);
    Checks.due("a", y.cell(1, 8), "0");
    // a 13th FRAME
    for (String body : new String[] {"", "put ( 1 ) ;"}) {
      Pagekernel z = Checks.begun("H ( a ) { " + body + " } G ( ) { a = a + 1 ; if ( a < 11 ) G ( ) ; else while ( 1 ) ; } F ( ) { on ( 1 , 2 ) ; G ( ) ; }", 0);
      z.run(40);
      Checks.due("FRAMES", z.ofProcess(1, 1), 12);
      z.send(1, 1);
      Checks.ticks(z, 1);
      Checks.due("TRAP 3", z.ofProcess(1, 7), 203);
      Checks.due("WHY", z.ofProcess(1, 8), 4);
      Checks.due("FRAMES at the end", z.ofProcess(1, 1), 12);
    }
    // who WAITS is told -1, and the signal comes then
    Pagekernel w = Checks.begun("H ( c ) { put ( c ) ; } F ( ) { on ( 2 , 2 ) ; a = get ( & b ) ; put ( a ) ; a = get ( & b ) ; put ( a ) ; }", 2);
    w.send(1, 2);
    Checks.due("can", w.can(1), true);
    Checks.ticks(w, 1);
    Checks.due("a", w.cell(1, 8), "-1");
    Checks.due("not taken by that", w.ofProcess(1, 3), 2);
    Checks.ticks(w, 4);
    Checks.due("first the handler", w.out(0), "1:2 1:-1");
    w.give(5);
    w.send(1, 2);
    Checks.ticks(w, 1);
    Checks.due("a signal goes ahead of an INPUT", w.inputs(), "5");
    w.run(9);
    Checks.due("at the end", w.out(2), "1:2 1:-1");
    // -1 may end it
    Pagekernel v = Checks.begun("F ( ) { a = get ( & b ) ; }", 1);
    v.send(1, 3);
    Checks.ticks(v, 1);
    Checks.due("it returned", v.ofProcess(1, 8), 1);
    // WAITS in a handler, is told -1 by 3 alone
    Pagekernel u = Checks.begun("H ( c ) { get ( y ) ; get ( y ) ; } F ( ) { on ( 2 , 2 ) ; kill ( 1 , 2 ) ; ; }", 3);
    u.send(1, 1);
    Checks.ticks(u, 1);
    Checks.due("it WAITS", u.state(1), 2);
    Checks.due("can", u.can(1), false);
    u.send(1, 3);
    Checks.due("can", u.can(1), true);
    Checks.ticks(u, 2);
    Checks.due("CODE", u.ofProcess(1, 7), 103);
    // a signal is there once
    Pagekernel t = Checks.begun("H ( c ) { a = a + 1 ; } F ( ) { on ( 1 , 2 ) ; kill ( 1 , 1 ) ; while ( b < 9 ) b = b + 1 ; get ( y ) ; }", 2);
    t.send(1, 1);
    t.send(1, 1);
    t.run(200);
    Checks.due("once", t.cell(1, 8), "1");
  }

  public static void main(String[] arguments) {
    forking();
    execing();
    waiting();
    exiting();
    piping();
    pipeCells();
    fileCells();
    twelveBodies();
    others();
    signals();
    Checks.end();
  }
}
