/** Section 2 and what GOES ON in a TICK: how E is reckoned, TRAPS, FRAMES, and where a PROCESS rests. */
public final class ReckoningTest {
  private static void value(String expression, int want) {
    for (int level = 0; level <= 2; level++) {
      Pagekernel x = Checks.with("F ( ) { int a ; b = 5 ; c = - 3 ; a = 2 ; x [ 1 ] = 7 ; y [ 0 ] = 8 ; a = " + expression + " ; }");
      Checks.due("kind of " + expression, x.kind(0), 0);
      x.level(level);
      x.start(0);
      Checks.ticks(x, 5);
      Checks.due("place of " + expression, x.where(1), 34);
      Checks.write(x, 1, "F ( ) { int a ; b = 5 ; c = - 3 ; a = 2 ; x [ 1 ] = 7 ; y [ 0 ] = 8 ; put ( " + expression + " ) ; }");
      x.level(level);
      x.start(1);
      x.run(200);
      Checks.due(expression + " at level " + level, x.out(0), "2:" + want);
      Checks.due("why " + expression, x.ofProcess(1, 8), 1);
    }
  }

  private static void trap(String statement, int trap) {
    for (int level = 0; level <= 2; level++) {
      Pagekernel x = Checks.with("F ( ) { int a ; int b ; " + statement + " put ( 1 ) ; }");
      Checks.due("kind of " + statement, x.kind(0), 0);
      x.level(level);
      x.start(0);
      x.run(200);
      Checks.due("CODE of " + statement, x.ofProcess(1, 7), trap == 0 ? 0 : 200 + trap);
      Checks.due("WHY of " + statement, x.ofProcess(1, 8), 1 + trap);
      Checks.due("outs of " + statement, x.out(0), trap == 0 ? "1:1" : "");
      Checks.due("state of " + statement, x.state(1), 4);
    }
  }

  private static void values() {
    value("19", 19);
    value("a", 2);
    value("b", 5);
    value("d", 0);
    value("x", 16);
    value("y", 24);
    value("x [ 1 ]", 7);
    value("x [ 8 ]", 8);
    value("y [ c - 4 ]", 7);
    value("x [ - 7 ]", 5);
    value("* 9", 5);
    value("& b", 9);
    value("& h", 15);
    value("* & b", 5);
    value("* ( x [ 1 ] + 2 ) + 1", 6);
    value("* ( x + 1 )", 7);
    value("* - - 17", 7);
    value("- b", -5);
    value("! b", 0);
    value("! d", 1);
    value("! ! b", 1);
    value("- ! 0", -1);
    value("1 + 2 * 3", 7);
    value("( 1 + 2 ) * 3", 9);
    value("9 - 4 - 3", 2);
    value("12 / 2 / 3", 2);
    value("2 * 7 % 4", 2);
    value("7 % 4 * 2", 6);
    value("- 7 / 2", -3);
    value("7 / - 2", -3);
    value("- 7 % 4", -3);
    value("7 % - 4", 3);
    value("c / 2", -1);
    value("c % 2", -1);
    value("1 < 2", 1);
    value("2 < 2", 0);
    value("3 > 2", 1);
    value("2 > 2", 0);
    value("c < 0", 1);
    value("1 < 2 < 1", 0);
    value("3 > 2 > 0", 1);
    value("b == 5", 1);
    value("b != 5", 0);
    value("b == 4", 0);
    value("b != 4", 1);
    value("1 < 2 == 2 > 1", 1);
    value("2 == 2 != 3", 1);
    value("1 || 0 && 0", 1);
    value("( 1 || 0 ) && 0", 0);
    value("0 || 9", 1);
    value("9 || 0", 1);
    value("0 || 0", 0);
    value("9 && 8", 1);
    value("9 && 0", 0);
    value("0 && 1 / 0", 0);
    value("1 || 1 / 0", 1);
    value("d && * 1", 0);
    value("b || * 1", 1);
    value("0 && 1 / 0 || 7", 1);
    value("1 && 2 && 3", 1);
    value("0 || 0 || 5", 1);
    value("1 == 1 && 2 == 2", 1);
    value("b && c || d", 1);
    value("! ( a && d )", 1);
    value("( a || d ) + 1", 2);
    value("( 0 && d ) + 1", 1);
    value("1 + ( 2 && a )", 2);
    // 2 to the 31, by squares: 19 is too small a number to come there at once
    value("16 * 16 * 16 * 16 * 16 * 16 * 16 * 8", Integer.MIN_VALUE);
    value("16 * 16 * 16 * 16 * 16 * 16 * 16 * 8 - 1", Integer.MAX_VALUE);
    value("16 * 16 * 16 * 16 * 16 * 16 * 16 * 16", 0);
    value("( 16 * 16 * 16 * 16 * 16 * 16 * 16 * 8 ) / - 1", Integer.MIN_VALUE);
    value("( 16 * 16 * 16 * 16 * 16 * 16 * 16 * 8 ) % - 1", 0);
    value("- ( 16 * 16 * 16 * 16 * 16 * 16 * 16 * 8 )", Integer.MIN_VALUE);
  }

  private static void traps() {
    trap("a = 1 / 0 ;", 2);
    trap("a = 1 % 0 ;", 2);
    trap("a = 1 / b ;", 2);
    trap("a = 0 * ( 1 / b ) ;", 2);
    trap("if ( 1 % b ) ;", 2);
    trap("while ( 1 / b ) ;", 2);
    trap("put ( 1 / b ) ;", 2);
    trap("a = * 7 ;", 1);
    trap("a = * 8 ;", 0);
    trap("a = * ( 2 * 15 + 1 ) ;", 0);
    trap("a = * ( 2 * 16 ) ;", 1);
    trap("a = * 0 ;", 1);
    trap("a = * - 1 ;", 1);
    trap("a = x [ 15 ] ;", 0);
    trap("a = x [ 16 ] ;", 1);
    trap("a = x [ - 8 ] ;", 0);
    trap("a = x [ - 9 ] ;", 1);
    trap("a = y [ 8 ] ;", 1);
    trap("x [ 16 ] = 1 ;", 1);
    trap("x [ 15 ] = 1 ;", 0);
    trap("x [ - 9 ] = 1 ;", 1);
    trap("* 7 = 1 ;", 1);
    trap("* 8 = 1 ;", 0);
    trap("* ( 2 * 16 ) = 1 ;", 1);
    // the ADDRESS, then what stands right, and only then whether it is OWN
    trap("* 7 = 1 / 0 ;", 2);
    trap("* ( 1 / 0 ) = * 7 ;", 2);
    trap("* ( * 7 ) = 1 / 0 ;", 1);
    trap("x [ * 7 ] = 1 / 0 ;", 1);
    // from left to right
    trap("a = * 7 + 1 / 0 ;", 1);
    trap("a = 1 / 0 + * 7 ;", 2);
    trap("kill ( * 7 , 1 / 0 ) ;", 1);
    trap("kill ( 1 / 0 , * 7 ) ;", 2);
    trap("wait ( 7 ) ;", 1);
    trap("wait ( 2 * 16 ) ;", 1);
    trap("wait ( 0 ) ;", 0);
    trap("wait ( 8 ) ;", 0);
    trap("pipe ( 2 * 15 + 1 ) ;", 1);
    trap("pipe ( 7 ) ;", 1);
    trap("pipe ( 2 * 15 ) ;", 0);
    trap("read ( 9 , 7 ) ;", 1);
    trap("read ( 9 , 8 ) ;", 0);
    trap("get ( 7 ) ;", 1);
    trap("get ( 2 * 16 ) ;", 1);
  }

  private static void frames() {
    Pagekernel x = Checks.begun("G ( c , a ) { int d ; d = c * 10 + a ; b = b + 1 ; if ( b < 11 ) G ( b , d ) ; e = e + 1 ; return 3 ; } "
        + "F ( ) { G ( 8 , 9 ) ; H ( ) ; } H ( ) { b = 9 ; G ( 1 , 2 ) ; F ( ) ; }", 2);
    Checks.due("function(1, 0)", x.function(1, 0), 0);
    Checks.due("function(1, 1)", x.function(1, 1), 1);
    Checks.due("function(1, 2)", x.function(1, 2), -1);
    Checks.due("function(1, -1)", x.function(1, -1), -1);
    Checks.due("c", x.local(1, 1, 2), "8");
    Checks.due("a", x.local(1, 1, 0), "9");
    Checks.due("d", x.local(1, 1, 3), "89");
    Checks.due("b is not local", x.local(1, 1, 1), "-");
    Checks.due("FRAMES", x.ofProcess(1, 1), 2);
    x.run(200);
    Checks.due("e", x.ofProcess(1, 7), 203);
    Checks.due("WHY", x.ofProcess(1, 8), 4);
    Checks.due("FRAMES at the end", x.ofProcess(1, 1), 12);
    // twelve FRAMES are none too many
    Pagekernel y = Checks.begun("F ( ) { a = a + 1 ; if ( a < 12 ) { F ( ) ; } b = b + 1 ; return b ; }", 0);
    y.run(200);
    Checks.due("CODE of twelve", y.ofProcess(1, 7), 12);
    Checks.due("WHY of twelve", y.ofProcess(1, 8), 1);
    Checks.due("FRAMES of twelve", y.ofProcess(1, 1), 1);
    // all E of a CALL are reckoned ahead of the FRAME
    Pagekernel z = Checks.begun("G ( b ) { a = a + 1 ; if ( a == 11 ) G ( 1 / 0 ) ; G ( a ) ; } F ( ) { G ( 0 ) ; }", 0);
    z.run(200);
    Checks.due("CODE of a 13th that divides", z.ofProcess(1, 7), 202);
  }

  private static void goingOn() {
    // what has no STATEMENT that begins takes no TICK
    Pagekernel x = Checks.begun("H ( ) { { int a ; } } G ( ) { a = H ( ) ; } F ( ) { { } int b ; a = 5 ; G ( ) ; ; }", 1);
    Checks.due("a", x.cell(1, 8), "5");
    Checks.due("where", x.where(1), 34);
    Checks.ticks(x, 2);
    Checks.due("the second ends both", x.cell(1, 8), "0");
    Checks.due("where", x.where(1), 38);
    Checks.due("FRAMES", x.ofProcess(1, 1), 1);
    Checks.ticks(x, 1);
    Checks.due("the last", x.state(1), 4);
    Checks.due("TICKS", x.ofProcess(1, 6), 4);
    // a "while" begins again, also behind nothing
    Pagekernel y = Checks.begun("F ( ) { while ( a < 2 ) { a = a + 1 ; } while ( 1 ) { } }", 0);
    int[] places = {4, 11, 4, 11, 4, 18, 18, 18};
    for (int i = 0; i < places.length; i++) {
      Checks.due("place " + i, y.where(1), places[i]);
      y.step();
    }
    // "if", "else", "break" and ";"
    Pagekernel z = Checks.begun("F ( ) { while ( 1 ) { if ( a ) break ; else if ( b ) a = 1 ; else { ; b = 1 ; } } return 7 ; }", 0);
    int[] walk = {4, 9, 16, 26, 27, 4, 9, 16, 20, 4, 9, 13, 33};
    for (int i = 0; i < walk.length; i++) {
      Checks.due("walk " + i, z.where(1), walk[i]);
      z.step();
    }
    Checks.due("CODE", z.ofProcess(1, 7), 7);
    Checks.due("TICKS", z.ofProcess(1, 6), walk.length);
    // each "break" is that of its own "while"
    for (int level = 0; level <= 2; level++) {
      Pagekernel w = Checks.with("F ( ) { while ( 1 ) { if ( a > 2 ) break ; while ( 1 ) { b = b + 1 ; if ( b % 3 == 0 ) break ; while ( 0 ) break ; if ( b == 7 ) break ; } "
          + "a = a + 1 ; if ( a == 9 ) break ; } put ( a ) ; put ( b ) ; while ( 1 ) break ; put ( 5 ) ; }");
      w.level(level);
      w.start(0);
      w.run(200);
      Checks.due("loops in loops", w.out(0), "1:3 1:7 1:5");
    }
    // "return" without E is 0, and it goes to the NAME of the CALL
    Checks.due("returned", Checks.outs("G ( ) { return ; a = 9 ; } H ( a ) { return a + 1 ; } F ( ) { int b ; b = 4 ; a = 3 ; b = G ( ) ; put ( b ) ; a = H ( 7 ) ; "
        + "put ( a ) ; H ( 9 ) ; put ( a ) ; }"), "1:0 1:8 1:8");
    Checks.due("who calls whom", Checks.outs("F ( ) { a = a + 1 ; if ( a < 3 ) { b = F ( ) ; put ( b ) ; } return a * 10 ; }"), "1:30 1:30");
  }

  public static void main(String[] arguments) {
    values();
    traps();
    frames();
    goingOn();
    Checks.end();
  }
}
