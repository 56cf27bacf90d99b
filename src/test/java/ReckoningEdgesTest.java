/** Section 2 of the document at its edges: numbers of 32 bits, ADDRESSES, TRAPS and FRAMES. */
public final class ReckoningEdgesTest {
  private static final int LEAST = Integer.MIN_VALUE;
  private static final int MOST = Integer.MAX_VALUE;
  private static final int[] EXTREMES = {LEAST, LEAST + 1, -2, -1, 0, 1, 2, MOST - 1, MOST};
  private static final String[] OPERATORS = "|| && == != < > + - * / %".split(" ");
  /** -2147483648, as it can be typed with NUMBERS up to 19. */
  private static final String TYPED_LEAST = "( 16 * 16 * 16 * 16 * 16 * 16 * 16 * 8 )";

  /** What is reckoned with numbers as long as it takes, cut to 32 bits at the end. */
  private static int of(int operator, long a, long b) {
    switch (operator) {
      case 0: return a != 0 || b != 0 ? 1 : 0;
      case 1: return a != 0 && b != 0 ? 1 : 0;
      case 2: return a == b ? 1 : 0;
      case 3: return a != b ? 1 : 0;
      case 4: return a < b ? 1 : 0;
      case 5: return a > b ? 1 : 0;
      case 6: return (int) (a + b);
      case 7: return (int) (a - b);
      case 8: return (int) (a * b);
      case 9: return (int) (a / b);
      default: return (int) (a - (int) (a / b) * b);
    }
  }

  private static String outAt(Pagekernel x, int place) {
    return x.out(place).split(" ")[0];
  }

  private static void pairs() {
    Checks.sentence("All numbers of programs are whole numbers of 32 bits that wrap around; \"/\" drops what is left over (towards 0), a % b is a - (a / b) * b.");
    for (int operator = 0; operator < OPERATORS.length; operator++) {
      for (int level = 0; level <= 2; level++) {
        String sign = OPERATORS[operator];
        String text = level == 1 ? "F ( ) { int c ; int d ; while ( 1 ) { get ( & a ) ; get ( & b ) ; c = a ; d = b ; put ( c " + sign + " d ) ; } }"
            : "F ( ) { while ( 1 ) { get ( & a ) ; get ( & b ) ; put ( a " + sign + " b ) ; } }";
        Pagekernel x = Checks.with(text);
        x.level(level);
        x.start(0);
        int told = 0;
        for (int a : EXTREMES) {
          for (int b : EXTREMES) {
            if (operator < 9 || b != 0) {
              x.give(a);
              x.give(b);
              x.run(200);
              Checks.due(a + " " + sign + " " + b, outAt(x, told), "1:" + of(operator, a, b));
              told++;
            }
          }
        }
        Checks.due("how many", x.house(10), told);
      }
    }
  }

  private static void singles() {
    for (int level = 0; level <= 2; level++) {
      Pagekernel x = Checks.with("F ( ) { while ( 1 ) { get ( & a ) ; put ( - a ) ; put ( ! a ) ; put ( ! ! a ) ; put ( - - a ) ; } }");
      x.level(level);
      x.start(0);
      for (int i = 0; i < EXTREMES.length; i++) {
        x.give(EXTREMES[i]);
        x.run(200);
        int a = EXTREMES[i];
        Checks.due("- ! of " + a, x.out(4 * i), "1:" + (int) -(long) a + " 1:" + (a == 0 ? 1 : 0) + " 1:" + (a == 0 ? 0 : 1) + " 1:" + a);
      }
    }
  }

  /** The same where it can be reckoned as the TEXT is compiled. */
  private static void typedNumbers() {
    String[] sums = {"+ 0", "- 1", "* - 1", "/ - 1", "% - 1", "/ 1", "% 1", "/ 2", "% 3", "+ M", "- M", "* M", "/ M", "% M", "< M", "> M", "== M", "!= M", "< M - 1", "> M - 1", "&& M", "|| M",
      "/ - 2", "% - 2", "* 2", "* 3", "- M - 1"};
    int[] due = {LEAST, MOST, LEAST, LEAST, 0, LEAST, 0, -1073741824, -2, 0, 0, 0, 1, 0, 0, 0, 1, 0, 1, 0, 1, 1, 1073741824, 0, 0, LEAST, -1};
    for (int level = 0; level <= 2; level++) {
      for (int i = 0; i < sums.length; i++) {
        String sum = TYPED_LEAST + " " + sums[i].replace("M", TYPED_LEAST);
        Pagekernel x = Checks.with("F ( ) { put ( " + sum + " ) ; b = " + TYPED_LEAST + " ; put ( b " + sums[i].replace("M", "b") + " ) ; }");
        x.level(level);
        x.start(0);
        x.run(9);
        Checks.due("the least number " + sums[i] + " at level " + level, x.out(0), "1:" + due[i] + " 1:" + due[i]);
      }
      Pagekernel x = Checks.with("F ( ) { put ( - " + TYPED_LEAST + " ) ; put ( ! " + TYPED_LEAST + " ) ; put ( - 7 / 2 ) ; put ( 7 / - 2 ) ; put ( - 7 % 2 ) ; put ( 7 % - 2 ) ; put ( - 1 / 2 ) ; "
          + "put ( 1 % - 2 ) ; }");
      x.level(level);
      x.start(0);
      x.run(9);
      Checks.due("towards 0", x.out(0), "1:" + LEAST + " 1:0 1:-3 1:-3 1:-1 1:1 1:0 1:1");
    }
  }

  private static void divided() {
    Checks.sentence("2 by 0 is divided (\"/\" or \"%\");");
    for (String sign : new String[] {"/", "%"}) {
      for (int level = 0; level <= 2; level++) {
        Pagekernel x = Checks.with("F ( ) { int c ; get ( & a ) ; c = a " + sign + " b ; put ( 1 ) ; }");
        x.level(level);
        for (int i = 0; i < EXTREMES.length; i++) {
          x.start(0);
          x.give(EXTREMES[i]);
          x.run(9);
          Checks.due("CODE of " + EXTREMES[i] + " " + sign + " 0", x.ofProcess(i + 1, 7), 202);
          Checks.due("WHY", x.ofProcess(i + 1, 8), 3);
        }
        Checks.due("nothing went on", x.out(0), "");
        for (String typed : new String[] {"0 " + sign + " 0", "1 " + sign + " 0", TYPED_LEAST + " " + sign + " ( 1 - 1 )", "1 " + sign + " ! 1", "1 " + sign + " ( 2 < 1 )"}) {
          Pagekernel y = Checks.with("F ( ) { put ( " + typed + " ) ; }");
          y.level(level);
          y.start(0);
          y.run(9);
          Checks.due("CODE of " + typed, y.ofProcess(1, 7) * 10 + y.ofProcess(1, 8), 2023);
        }
      }
    }
  }

  private static void ends(String statement, int trap, String outs) {
    for (int level = 0; level <= 2; level++) {
      Pagekernel x = Checks.with("G ( a , b ) { put ( a ) ; } F ( ) { int a ; " + statement + " }");
      Checks.due("kind of " + statement, x.kind(0), 0);
      x.level(level);
      x.start(0);
      x.run(200);
      Checks.due("CODE and WHY of " + statement, x.ofProcess(1, 7) * 10 + x.ofProcess(1, 8), trap == 0 ? 1 : (200 + trap) * 10 + 1 + trap);
      Checks.due("OUTS of " + statement, x.out(0), outs);
    }
  }

  private static void shortWays() {
    Checks.sentence("! U is 1 if U is 0, otherwise 0; comparisons are 1 or 0; A && B is 0 if A is 0, and then B is not reckoned, otherwise 1 or 0 as B is not 0 or 0; A || B likewise 1 if A is not 0.");
    String[] zero = {"0", "b", "! 1", "( 1 < 1 )", "* 9", "x [ 7 ]"};
    String[] other = {"1", "- 2", TYPED_LEAST, "& b", "! b", "x", "( 1 > 0 )"};
    for (String a : zero) {
      ends("put ( " + a + " && 1 / 0 ) ;", 0, "1:0");
      ends("put ( " + a + " && * 7 ) ;", 0, "1:0");
      ends("put ( " + a + " || 1 / 0 ) ;", 2, "");
      ends("put ( " + a + " || * 7 ) ;", 1, "");
      ends("put ( " + a + " || 0 ) ;", 0, "1:0");
      ends("put ( " + a + " || 19 ) ;", 0, "1:1");
      ends("put ( " + a + " && 1 / 0 || 5 ) ;", 0, "1:1");
      ends("if ( " + a + " ) put ( 1 ) ; else put ( 2 ) ;", 0, "1:2");
      ends("while ( " + a + " ) put ( 1 ) ;", 0, "");
    }
    for (String a : other) {
      ends("put ( " + a + " || 1 / 0 ) ;", 0, "1:1");
      ends("put ( " + a + " || * 7 ) ;", 0, "1:1");
      ends("put ( " + a + " && 1 / 0 ) ;", 2, "");
      ends("put ( " + a + " && * 7 ) ;", 1, "");
      ends("put ( " + a + " && 0 ) ;", 0, "1:0");
      ends("put ( " + a + " && 19 ) ;", 0, "1:1");
      ends("put ( 0 && 1 || " + a + " ) ;", 0, "1:1");
      ends("if ( " + a + " ) put ( 1 ) ; else put ( 2 ) ;", 0, "1:1");
      ends("while ( " + a + " ) { put ( 1 ) ; break ; }", 0, "1:1");
    }
  }

  /** What is reckoned behind a "&&" or "||" has two ways to it. */
  private static void behindShortWays() {
    Checks.sentence("A && B is 0 if A is 0, and then B is not reckoned, otherwise 1 or 0 as B is not 0 or 0; A || B likewise 1 if A is not 0.");
    for (int a = 0; a <= 2; a += 2) {
      for (int b = 0; b <= 5; b += 5) {
        int and = a != 0 && b != 0 ? 1 : 0;
        int or = a != 0 || b != 0 ? 1 : 0;
        for (String left : new String[] {"" + a, a == 0 ? "b" : "c", "( " + a + " + b )"}) {
          for (String right : new String[] {"" + b, b == 0 ? "b" : "c", "- " + b, "( " + b + " != 0 )"}) {
            ends("c = 7 ; put ( ( " + left + " && " + right + " ) + 3 ) ; put ( - ( " + left + " && " + right + " ) ) ; put ( ! ( " + left + " && " + right + " ) ) ; put ( 2 * ( " + left + " && " + right + " ) == 2 ) ;", 0,
                "1:" + (and + 3) + " 1:" + -and + " 1:" + (1 - and) + " 1:" + and);
            ends("c = 7 ; put ( ( " + left + " || " + right + " ) + 3 ) ; put ( - ( " + left + " || " + right + " ) ) ; put ( ! ( " + left + " || " + right + " ) ) ; put ( 2 * ( " + left + " || " + right + " ) == 2 ) ;", 0,
                "1:" + (or + 3) + " 1:" + -or + " 1:" + (1 - or) + " 1:" + or);
            // what stands left of it stays where it is
            ends("c = 7 ; put ( 5 - ( " + left + " && " + right + " ) ) ; put ( 5 - ( " + left + " || " + right + " ) ) ; put ( 9 - ( 5 - ( " + left + " && " + right + " ) ) ) ; G ( 4 , " + left + " && " + right
                + " ) ; G ( " + left + " || " + right + " , 4 ) ;", 0, "1:" + (5 - and) + " 1:" + (5 - or) + " 1:" + (4 + and) + " 1:4 1:" + or);
            ends("c = 7 ; put ( ( " + left + " && " + right + " || 0 ) - 1 ) ; put ( ( " + left + " || " + right + " && 1 ) - 1 ) ; if ( ( " + left + " && " + right + " ) + 0 ) put ( 4 ) ; "
                + "* ( 8 + ( " + left + " || " + right + " ) ) = 9 ; put ( * 8 + * 9 ) ;", 0, "1:" + (and - 1) + " 1:" + (or - 1) + (and == 1 ? " 1:4" : "") + " 1:9");
          }
        }
      }
    }
  }

  private static void leftToRight() {
    Checks.sentence("E is reckoned from left to right, what stands left of a sign ahead of what stands right.");
    for (String sign : OPERATORS) {
      ends("a = * 7 " + sign + " ( 1 / 0 ) ;", 1, "");
      ends("a = ( 1 / 0 ) " + sign + " * 7 ;", 2, "");
      ends("a = ( 1 " + sign + " * 7 ) + 1 / 0 ;", sign.equals("||") ? 2 : 1, "");
    }
    ends("G ( * 7 , 1 / 0 ) ;", 1, "");
    ends("G ( 1 / 0 , * 7 ) ;", 2, "");
    ends("a = x [ * 7 ] + 1 / 0 ;", 1, "");
    Checks.sentence("Storing: the ADDRESS is reckoned, then what stands right of \"=\", and then it is looked at whether it is OWN.");
    ends("* 7 = 1 / 0 ;", 2, "");
    ends("* 7 = 1 ;", 1, "");
    ends("* ( 1 / 0 ) = * 7 ;", 2, "");
    ends("* * 7 = 1 / 0 ;", 1, "");
    ends("x [ 16 ] = 1 / 0 ;", 2, "");
    ends("x [ 16 ] = 1 ;", 1, "");
    ends("x [ 1 / 0 ] = * 7 ;", 2, "");
    ends("x [ * 7 ] = 1 / 0 ;", 1, "");
    ends("* 8 = * 8 + 3 ; put ( * 8 ) ;", 0, "1:3");
  }

  // ---- ADDRESSES

  private static final String[] TOUCHES = {"c = * a ;", "* a = 1 ;", "x [ a - 16 ] = 1 ;", "c = y [ a - 8 * 3 ] ;", "if ( * a ) ;", "while ( * a ) break ;", "put ( * a ) ;", "wait ( a ) ;", "pipe ( a ) ;",
    "read ( 5 , a ) ;", "read ( - 1 , a ) ;", "get ( a ) ;", "c = get ( a ) ;", "wait ( a + 0 ) ;", "c = - * a ;", "kill ( * a , 0 ) ;"};

  private static boolean isOwn(int address, int end) {
    return address >= 8 && address < end;
  }

  private static boolean isAllowed(String touch, int address, int end) {
    if (touch.startsWith("pipe")) {
      return isOwn(address, end) && isOwn(address + 1, end);
    }
    return isOwn(address, end) || touch.startsWith("wait") && address == 0;
  }

  private static void addresses() {
    Checks.sentence("OWN are ADDRESSES from 8 on below BREAK.");
    int[] tried = {LEAST, LEAST + 7, -1, 0, 1, 7, 8, 9, 15, 16, 23, 24, 30, 31, 32, 33, 94, 95, 96, 97, MOST - 1, MOST};
    for (int end : new int[] {32, 33, 95, 96}) {
      for (int i = 0; i < TOUCHES.length; i++) {
        Pagekernel x = Checks.with("F ( ) { get ( & b ) ; grow ( b ) ; get ( & a ) ; " + TOUCHES[i] + " get ( y + 7 ) ; return 5 ; }");
        x.level(i % 3);
        for (int k = 0; k < tried.length; k++) {
          int pid = x.start(0);
          x.give(end - 32);
          x.give(tried[k]);
          x.give(7);
          x.give(8);
          x.run(200);
          boolean isDone = isAllowed(TOUCHES[i], tried[k], end);
          Checks.due("CODE of " + TOUCHES[i] + " with " + tried[k] + " below " + end, x.ofProcess(pid, 7), isDone ? 5 : 201);
          Checks.due("WHY of " + TOUCHES[i] + " with " + tried[k] + " below " + end, x.ofProcess(pid, 8), isDone ? 1 : 2);
          Checks.due("BREAK", x.ofProcess(pid, 2), end);
          x.crash(0, false);
          Checks.due("INPUTS", x.house(9), 0);
        }
      }
    }
  }

  private static void cellsThatAreTold() {
    Checks.sentence("MEMORY of a PROCESS is cells by ADDRESSES: GLOBAL NAMES a to h 8 to 15, cells of x 16 to 23, of y 24 to 31, then the HEAP from 32 up to BREAK (without it; 32 at first, at most 96).");
    Checks.sentence("All cells are 0 at first.");
    Pagekernel x = Checks.begun("F ( ) { ; grow ( 8 * 8 ) ; a = 1 ; h = 2 ; x [ 0 ] = 3 ; x [ 7 ] = 4 ; y [ 0 ] = 5 ; y [ 7 ] = 6 ; y [ 8 ] = 7 ; * ( 5 * 19 ) = 8 ; get ( & b ) ; }", 0);
    for (int address = 0; address <= 100; address++) {
      Checks.due("cell " + address, x.cell(1, address), isOwn(address, 32) ? "0" : "-");
    }
    Checks.ticks(x, 2);
    for (int address = 0; address <= 100; address++) {
      Checks.due("cell " + address, x.cell(1, address), isOwn(address, 96) ? "0" : "-");
    }
    Checks.ticks(x, 8);
    int[] told = {8, 15, 16, 23, 24, 31, 32, 95};
    for (int i = 0; i < told.length; i++) {
      Checks.due("cell " + told[i], x.cell(1, told[i]), "" + (i + 1));
      Checks.due("cell beside it", x.cell(1, told[i] + (i % 2 == 0 ? 1 : -1)), "0");
    }
    Checks.due("far off", x.cell(1, LEAST) + x.cell(1, MOST) + x.cell(1, -8), "---");
    Checks.sentence("* U the cell with the ADDRESS U; & NAME the ADDRESS of a GLOBAL NAME.");
    Pagekernel y = Checks.begun("F ( ) { put ( & a ) ; put ( & h ) ; put ( x ) ; put ( y ) ; a = 4 ; put ( * & a ) ; put ( x [ - 8 ] ) ; put ( y [ - 16 ] ) ; * & h = 9 ; put ( x [ - 1 ] ) ; put ( h ) ; }", 0);
    y.run(200);
    Checks.due("ADDRESSES", y.out(0), "1:8 1:15 1:16 1:24 1:4 1:4 1:4 1:9 1:9");
  }

  private static void breaks() {
    Checks.sentence("grow(n): -1 if BREAK + n is not 32 to 96; otherwise BREAK is that, all cells between old and new are 0; the old BREAK.");
    int[][] growths = {{0, 32, 32}, {-1, -1, 32}, {LEAST, -1, 32}, {MOST, -1, 32}, {65, -1, 32}, {64, 32, 96}, {1, -1, 96}, {MOST, -1, 96}, {LEAST, -1, 96}, {-65, -1, 96}, {0, 96, 96}, {-63, 96, 33},
      {-2, -1, 33}, {-1, 33, 32}, {1, 32, 33}, {63, 33, 96}, {-64, 96, 32}, {MOST - 31, -1, 32}, {LEAST + 32, -1, 32}};
    Pagekernel x = Checks.begun("F ( ) { while ( 1 ) { get ( & a ) ; b = grow ( a ) ; put ( b ) ; } }", 0);
    for (int i = 0; i < growths.length; i++) {
      x.give(growths[i][0]);
      x.run(200);
      Checks.due("grow(" + growths[i][0] + ")", x.out(i), "1:" + growths[i][1]);
      Checks.due("BREAK behind grow(" + growths[i][0] + ")", x.ofProcess(1, 2), growths[i][2]);
      Checks.due("the last cell", x.cell(1, growths[i][2] - 1), "0");
      Checks.due("none behind it", x.cell(1, growths[i][2]), "-");
    }
    for (int value : new int[] {1, -1, LEAST, MOST}) {
      Pagekernel y = Checks.begun("F ( ) { grow ( 5 ) ; get ( y + 12 ) ; grow ( - 1 ) ; a = grow ( 1 ) ; get ( & b ) ; }", 0);
      y.give(value);
      y.run(9);
      Checks.due("a cell that was " + value, y.cell(1, 36) + "/" + y.cell(1, 8), "0/36");
    }
    // a cell that was given back comes again as 0, at each place of a page; those below stay
    for (int end = 33; end <= 96; end++) {
      Pagekernel y = Checks.with("F ( ) { int d ; grow ( 8 * 8 ) ; d = 5 * 19 ; while ( d > 15 ) { * d = d ; d = d - 1 ; } get ( & a ) ; grow ( a ) ; grow ( - a ) ; get ( & b ) ; }");
      y.level(2);
      y.frames(8 + end % 8);
      y.start(0);
      y.run(200);
      y.press(1);
      y.give(end - 96);
      y.run(200);
      Checks.due("BREAK", y.ofProcess(1, 2), 96);
      for (int address = end - 2; address <= end + 1; address++) {
        if (address < 96) {
          Checks.due("cell " + address + " behind " + end, y.cell(1, address), address < end ? "" + address : "0");
        }
      }
      Checks.due("cell 95 behind " + end, y.cell(1, 95), end == 96 ? "95" : "0");
      Checks.due("cell 31", y.cell(1, 31), "31");
    }
  }

  // ---- FRAMES

  private static void twelveFrames() {
    Checks.sentence("3 a 13th FRAME would be laid.");
    for (int level = 0; level <= 2; level++) {
      for (int most = 1; most <= 14; most++) {
        Pagekernel x = Checks.with("G ( a ) { int b ; b = a * 2 ; if ( a < c ) G ( a + 1 ) ; get ( & d ) ; return a ; } F ( ) { int b ; get ( & c ) ; if ( c ) b = G ( 1 ) ; return b + 7 ; }");
        x.level(level);
        x.start(0);
        x.give(most);
        x.run(200);
        boolean isTrap = most > 11;
        int frames = isTrap ? 12 : most + 1;
        Checks.due("FRAMES of " + most, x.ofProcess(1, 1), frames);
        Checks.due("STATE of " + most, x.state(1), isTrap ? 4 : 2);
        Checks.due("CODE of " + most, x.ofProcess(1, 7), isTrap ? 203 : 0);
        Checks.due("WHY of " + most, x.ofProcess(1, 8), isTrap ? 4 : 0);
        for (int frame = 0; frame <= 12; frame++) {
          boolean isThere = !isTrap && frame < frames;
          Checks.due("function of FRAME " + frame, x.function(1, frame), !isThere ? -1 : frame == 0 ? 0 : 1);
          Checks.due("a of FRAME " + frame, x.local(1, frame, 0), isThere && frame > 0 ? "" + frame : "-");
          Checks.due("b of FRAME " + frame, x.local(1, frame, 1), !isThere ? "-" : "" + 2 * frame);
        }
        for (int frame : new int[] {-1, LEAST, MOST}) {
          Checks.due("no FRAME", x.function(1, frame) + x.local(1, frame, 1), "-1-");
        }
        for (int i = 0; i < frames - 1 && !isTrap; i++) {
          x.give(0);
          x.run(9);
        }
        Checks.due("CODE at the end of " + most, x.ofProcess(1, 7), isTrap ? 203 : 8);
      }
    }
    Checks.sentence("At most 12 FRAMES.");
    for (int most = 9; most <= 11; most++) {
      for (String body : new String[] {"", "{ int a ; }", "return ;", ";"}) {
        Pagekernel x = Checks.with("G ( ) { " + body + " } H ( ) { a = a + 1 ; if ( a < " + most + " ) H ( ) ; else G ( ) ; } F ( ) { H ( ) ; put ( 1 ) ; }");
        x.start(0);
        x.run(200);
        Checks.due("one that does nothing behind " + (most + 1), x.ofProcess(1, 7), most == 11 ? 203 : 0);
        Checks.due("OUTS", x.out(0), most == 11 ? "" : "1:1");
      }
    }
    Checks.sentence("a CALL of a FUNCTION reckons all E, then lays the FRAME;");
    Pagekernel y = Checks.begun("F ( ) { G ( 0 ) ; } G ( b ) { a = a + 1 ; if ( a < 11 ) G ( b ) ; G ( 1 / 0 ) ; }", 0);
    y.run(200);
    Checks.due("a 13th that divides", y.ofProcess(1, 7), 202);
  }

  private static void traps() {
    Checks.sentence("A TRAP k ends the PROCESS: CODE 200 + k, WHY 1 + k.");
    String[] trapped = {"a = * 7 ;", "a = 1 / 0 ;", "while ( 1 ) F ( ) ;"};
    for (int k = 1; k <= 3; k++) {
      Pagekernel x = Checks.begun("F ( ) { pipe ( x ) ; " + trapped[k - 1] + " put ( 1 ) ; }", 0);
      x.run(200);
      Checks.due("CODE", x.ofProcess(1, 7), 200 + k);
      Checks.due("WHY", x.ofProcess(1, 8), 1 + k);
      Checks.due("STATE", x.state(1), 4);
      Checks.due("descriptors are closed", x.house(13) + x.house(2), 0);
      Checks.due("OUTS", x.out(0), "");
      Checks.due("its SLOT is free", x.house(0), 0);
    }
  }

  private static void localsAtFirst() {
    Checks.sentence("each has its LOCAL NAMES, which have no ADDRESS: parameters what was told, others 0.");
    Pagekernel x = Checks.begun("G ( h , a ) { int b ; int c ; get ( y ) ; b = 5 ; c = b ; } F ( ) { G ( 1 , 2 ) ; G ( 3 , 4 ) ; }", 0);
    for (int round = 0; round < 2; round++) {
      Checks.ticks(x, 2);
      String[] due = {2 + 2 * round + "", "0", "0", "-", "-", "-", "-", 1 + 2 * round + ""};
      for (int name = 0; name < 8; name++) {
        Checks.due("NAME " + name + " the " + round + ". time", x.local(1, 1, name), due[name]);
      }
      x.give(0);
      Checks.ticks(x, 3);
    }
    Pagekernel y = Checks.begun("G ( a , b , c , d , e , f , g , h ) { get ( y ) ; } F ( ) { G ( 1 , 2 , 3 , 4 , 5 , 6 , 7 , 8 ) ; }", 1);
    Pagekernel z = Checks.begun("G ( h , g , f , e , d , c , b , a ) { get ( y ) ; } F ( ) { G ( 1 , 2 , 3 , 4 , 5 , 6 , 7 , 8 ) ; }", 1);
    for (int name = 0; name < 8; name++) {
      Checks.due("eight parameters", y.local(1, 1, name), "" + (name + 1));
      Checks.due("eight parameters, the last first", z.local(1, 1, name), "" + (8 - name));
    }
  }

  private static void localsInEachFrame() {
    Checks.sentence("parameters what was told, others 0.");
    for (int depth = 1; depth <= 11; depth++) {
      Pagekernel x = Checks.begun("G ( h ) { if ( h < " + depth + " ) G ( h + 1 ) ; else H ( ) ; } H ( ) { int b ; int c ; int e ; int f ; x [ a ] = b * 8 + c * 4 + e * 2 + f + 1 ; a = a + 1 ; b = 1 ; c = 1 ; e = 1 ; f = 1 ; } "
          + "F ( ) { " + (depth < 11 ? "G ( 1 ) ; G ( 1 ) ;" : "H ( ) ; H ( ) ;") + " get ( y ) ; }", 0);
      Checks.due("kind", x.kind(0), 0);
      x.run(200);
      Checks.due("locals " + depth + " deep, twice", x.state(1) + x.cell(1, 16) + x.cell(1, 17), "211");
    }
    // an exec() begins with FRAMES of its own
    Pagekernel x = Checks.begun("F ( ) { int a ; int b ; a = 5 ; b = 6 ; exec ( 1 ) ; }", 0);
    Checks.write(x, 1, "F ( ) { int b ; int a ; get ( y ) ; }");
    x.run(9);
    Checks.due("behind exec()", x.local(1, 0, 0) + x.local(1, 0, 1), "00");
    Checks.sentence("A forked PROCESS has DESCRIPTORS that lead to the same OPENINGS.");
    Pagekernel y = Checks.begun("G ( d , c , b ) { get ( y ) ; } F ( ) { a = fork ( ) ; if ( a == 0 ) G ( 1 , 2 , 3 ) ; while ( 1 ) ; }", 0);
    y.run(30);
    Checks.due("parameters of a CALL by a child", y.local(2, 1, 1) + y.local(2, 1, 2) + y.local(2, 1, 3), "321");
  }

  public static void main(String[] arguments) {
    pairs();
    singles();
    typedNumbers();
    divided();
    shortWays();
    behindShortWays();
    leftToRight();
    addresses();
    cellsThatAreTold();
    breaks();
    twelveFrames();
    traps();
    localsAtFirst();
    localsInEachFrame();
    Checks.end();
  }
}
