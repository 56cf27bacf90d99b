/** Promises 1 to 11: texts, their ERRORS, and what is LOCAL. */
public final class ProgramsTest {
  private static void error(String text, int kind, int place) {
    Pagekernel x = Checks.with(text);
    Checks.due("kind of " + text, x.kind(0), kind);
    Checks.due("error of " + text, x.error(0), place);
    Checks.due("text of " + text, x.text(0), text);
    Checks.due("length of " + text, x.length(0), text.isEmpty() ? 0 : text.split(" ").length);
  }

  private static void newObject() {
    Pagekernel x = new Pagekernel();
    for (int what = 0; what <= 13; what++) {
      Checks.due("house(" + what + ") of a new object", x.house(what), what == 7 ? 3 : 0);
    }
    for (int program = 0; program < 4; program++) {
      Checks.due("length", x.length(program), 0);
      Checks.due("text", x.text(program), "");
      Checks.due("kind", x.kind(program), 1);
      Checks.due("error", x.error(program), 0);
    }
    Checks.due("turn(0)", x.turn(0), -1);
    Checks.due("turn(1)", x.turn(1), 0);
    Checks.due("turn(2)", x.turn(2), -1);
    Checks.due("step()", x.step(), -1);
    Checks.due("run(200)", x.run(200), 0);
    Checks.due("would(0)", x.would(0), "");
    Checks.due("inputs()", x.inputs(), "");
    Checks.due("out(0)", x.out(0), "");
    Checks.due("isSound()", x.isSound(), true);
    for (int name = 0; name < 8; name++) {
      Checks.due("size", x.size(name), -1);
      Checks.due("inFile", x.inFile(name), "-");
    }
    for (int pipe = 0; pipe < 4; pipe++) {
      Checks.due("inPipe", x.inPipe(pipe), "-");
      Checks.due("ofPipe", x.ofPipe(pipe, 0), -1);
    }
  }

  private static void typing() {
    Pagekernel x = new Pagekernel();
    Checks.due("type none", x.type(3, -1, 1, 2, 3, 4), 0);
    Checks.due("type two", x.type(3, 0, 79, -1, 3, 4), 2);
    Checks.due("type five", x.type(3, 20, 28, 30, 34, 62), 7);
    Checks.due("text(3)", x.text(3), "0 sync a x F int fork");
    Checks.due("text(2)", x.text(2), "");
    for (int program : new int[] {-1, 4, Integer.MIN_VALUE, Integer.MAX_VALUE}) {
      Checks.refused(x, "type to " + program, Checks.INDEX, () -> x.type(program, 99, 0, 0, 0, 0));
      Checks.refused(x, "drop of " + program, Checks.INDEX, () -> x.drop(program, -1));
      Checks.refused(x, "sample to " + program, Checks.INDEX, () -> x.sample(program, 9));
      Checks.refused(x, "change in " + program, Checks.INDEX, () -> x.change(program, 0, 99));
      Checks.refused(x, "length of " + program, Checks.INDEX, () -> x.length(program));
      Checks.refused(x, "token of " + program, Checks.INDEX, () -> x.token(program, 0));
      Checks.refused(x, "text of " + program, Checks.INDEX, () -> x.text(program));
      Checks.refused(x, "error of " + program, Checks.INDEX, () -> x.error(program));
      Checks.refused(x, "kind of " + program, Checks.INDEX, () -> x.kind(program));
      Checks.refused(x, "isLocal of " + program, Checks.INDEX, () -> x.isLocal(program, 0, 0));
    }
    for (int place = 0; place < 5; place++) {
      for (int token : new int[] {-2, 80, Integer.MIN_VALUE, Integer.MAX_VALUE}) {
        int[] t = {-1, 1, 2, 3, 4};
        t[place] = token;
        Checks.refused(x, "type " + token + " as " + place, Checks.ARGUMENT, () -> x.type(3, t[0], t[1], t[2], t[3], t[4]));
      }
    }
    Checks.due("length(3)", x.length(3), 7);
  }

  private static void fullText() {
    Pagekernel x = new Pagekernel();
    for (int i = 0; i < 31; i++) {
      x.type(1, 1, 2, 3, 4, 5);
    }
    Checks.due("158", x.type(1, 6, 7, 8, -1, -1), 158);
    Checks.refused(x, "three more than 160", Checks.STATE, () -> x.type(1, 1, 1, 1, -1, -1));
    Checks.refused(x, "a wrong TOKEN ahead of a full text", Checks.ARGUMENT, () -> x.type(1, 1, 1, 1, 80, -1));
    Checks.due("160", x.type(1, 9, 10, -1, 11, 11), 160);
    Checks.due("none more", x.type(1, -1, 10, -1, 11, 11), 160);
    Checks.refused(x, "a 161st", Checks.STATE, () -> x.type(1, 1, -1, -1, -1, -1));
    Checks.due("the last", x.token(1, 159), 10);
  }

  private static void dropping() {
    Pagekernel x = Checks.with("F ( ) { a = 1 ; }");
    Checks.refused(x, "drop more", Checks.ARGUMENT, () -> x.drop(0, 10));
    Checks.refused(x, "drop less", Checks.ARGUMENT, () -> x.drop(0, -1));
    Checks.due("drop none", x.drop(0, 0), 9);
    Checks.due("kind", x.kind(0), 0);
    Checks.due("drop one", x.drop(0, 1), 8);
    Checks.due("kind without the end", x.kind(0), 1);
    Checks.due("error without the end", x.error(0), 8);
    Checks.due("drop all", x.drop(0, 8), 0);
    Checks.refused(x, "drop of nothing", Checks.ARGUMENT, () -> x.drop(0, 1));
  }

  private static void sampling() {
    int[] lengths = {27, 49, 58, 105, 101, 53, 50, 90};
    Pagekernel x = Checks.with("G G G");
    for (int k = 0; k < 8; k++) {
      Checks.due("sample " + k, x.sample(0, k), lengths[k]);
      Checks.due("length of sample " + k, x.length(0), lengths[k]);
      Checks.due("kind of sample " + k, x.kind(0), 0);
    }
    x.sample(0, 0);
    Checks.due("text of sample 0", x.text(0), "F ( ) { int a ; while ( a < 3 ) { put ( a ) ; a = a + 1 ; } }");
    x.sample(0, 6);
    Checks.due("text of sample 6", x.text(0),
        "F ( ) { int b ; b = grow ( 8 ) ; y [ 8 ] = 9 ; put ( * b ) ; b = b + 7 ; * b = a / 2 ; * ( b + 1 ) = 1 ; }");
    x.sample(0, 5);
    Checks.due("text of sample 5", x.text(0),
        "H ( a ) { put ( a + 10 ) ; c = c + 1 ; } F ( ) { on ( 1 , 2 ) ; on ( 2 , 2 ) ; while ( c < 2 ) pause ( ) ; put ( c ) ; }");
    Checks.refused(x, "sample 8", Checks.ARGUMENT, () -> x.sample(0, 8));
    Checks.refused(x, "sample -1", Checks.ARGUMENT, () -> x.sample(0, -1));
  }

  private static void sampleAnswers() {
    String[] outs = {"1:0 1:1 1:2", "1:120", "2:8 1:7 1:3", "1:0 1:1 1:4 1:9 1:16 1:25", "1:11 1:12 1:13", "", "1:9"};
    for (int k = 0; k < outs.length; k++) {
      Pagekernel x = new Pagekernel();
      x.sample(2, k);
      x.start(2);
      x.run(200);
      Checks.due("what sample " + k + " puts", x.out(0), outs[k]);
    }
  }

  private static void changing() {
    Pagekernel x = Checks.with("F ( ) { a = 1 ; }");
    Checks.due("change 6", x.change(0, 6, 19), 1);
    Checks.due("token 6", x.token(0, 6), 19);
    Checks.due("kind", x.kind(0), 0);
    Checks.due("change 8", x.change(0, 8, 40), 41);
    Checks.due("kind", x.kind(0), 1);
    Checks.refused(x, "place 9", Checks.INDEX, () -> x.change(0, 9, 80));
    Checks.refused(x, "place -1", Checks.INDEX, () -> x.change(0, -1, 0));
    Checks.refused(x, "token 80", Checks.ARGUMENT, () -> x.change(0, 8, 80));
    Checks.refused(x, "token -1", Checks.ARGUMENT, () -> x.change(0, 8, -1));
    Checks.refused(x, "token(0, 9)", Checks.INDEX, () -> x.token(0, 9));
    Checks.refused(x, "token(0, -1)", Checks.INDEX, () -> x.token(0, -1));
    Checks.due("token(0, 0)", x.token(0, 0), 30);
    Checks.due("change the first", x.change(0, 0, 31), 30);
    Checks.due("text", x.text(0), "G ( ) { a = 19 ; {");
  }

  private static void signs() {
    Pagekernel x = new Pagekernel();
    for (int token = 0; token < 80; token++) {
      x.drop(0, x.length(0));
      x.type(0, token, 0, -1, -1, -1);
      Checks.due("sign of " + token, x.text(0), Checks.sign(token) + " 0");
    }
  }

  /** KIND 1: each place of each part of the form. */
  private static void forms() {
    error("", 1, 0);
    error("a", 1, 0);
    error("F", 1, 1);
    error("F F", 1, 1);
    error("F ( ,", 1, 2);
    error("F ( a b", 1, 3);
    error("F ( a , )", 1, 4);
    error("F ( x )", 1, 2);
    error("F ( ) ;", 1, 3);
    error("F ( ) {", 1, 4);
    error("F ( ) { } }", 1, 5);
    error("F ( ) { } ;", 1, 5);
    error("F ( ) { } F", 1, 6);
    error("F ( ) { 1 ; }", 1, 4);
    error("F ( ) { - 1 ; }", 1, 4);
    error("F ( ) { int x ; }", 1, 5);
    error("F ( ) { int a , b ; }", 1, 6);
    error("F ( ) { int a = 1 ; }", 1, 6);
    error("F ( ) { if a", 1, 5);
    error("F ( ) { if ( ) ;", 1, 6);
    error("F ( ) { else ; }", 1, 4);
    error("F ( ) { if ( 1 ) else ; }", 1, 8);
    error("F ( ) { if ( 1 ) ; else ; else ; }", 1, 11);
    error("F ( ) { if ( 1 ) while ( 2 ) if ( 3 ) ; else ; else ; else ; }", 1, 21);
    error("F ( ) { while ( 1 ; ) ; }", 1, 7);
    error("F ( ) { while ( 1 ) }", 1, 8);
    error("F ( ) { break 1 ; }", 1, 5);
    error("F ( ) { return G ( ) ; }", 1, 5);
    error("F ( ) { return 1 2 ; }", 1, 6);
    error("F ( ) { a ; }", 1, 5);
    error("F ( ) { a == 1 ; }", 1, 5);
    error("F ( ) { a = ; }", 1, 6);
    error("F ( ) { a = G ; }", 1, 7);
    error("F ( ) { a = G ( ) + 1 ; }", 1, 9);
    error("F ( ) { a = 1 + G ( ) ; }", 1, 8);
    error("F ( ) { a = ( 1 ; }", 1, 8);
    error("F ( ) { a = 1 ) ; }", 1, 7);
    error("F ( ) { a = x [ 1 ; }", 1, 9);
    error("F ( ) { a = x [ ] ; }", 1, 8);
    error("F ( ) { a = a [ 1 ] ; }", 1, 7);
    error("F ( ) { a = & x ; }", 1, 7);
    error("F ( ) { a = & 1 ; }", 1, 7);
    error("F ( ) { a = ! ; }", 1, 7);
    error("F ( ) { a = 1 ! 2 ; }", 1, 7);
    error("F ( ) { a = 1 & b ; }", 1, 7);
    error("F ( ) { x = 1 ; }", 1, 5);
    error("F ( ) { x [ 1 ] ; }", 1, 8);
    error("F ( ) { * a + 1 = 2 ; }", 1, 6);
    error("F ( ) { * = 2 ; }", 1, 5);
    error("F ( ) { put ; }", 1, 5);
    error("F ( ) { put ( 1 , ) ; }", 1, 8);
    error("F ( ) { put ( , 1 ) ; }", 1, 6);
    error("F ( ) { put ( 1 2 ) ; }", 1, 7);
    error("F ( ) { put ( put ( 1 ) ) ; }", 1, 6);
    error("F ( ) { x [ put ( 1 ) ] = 2 ; }", 1, 6);
    error("F ( ) { a = = 1 ; }", 1, 6);
    error("F ( ) { ; ; { } { ; } }", 0, -1);
    error("F ( ) { if ( 1 ) while ( 2 ) if ( 3 ) ; else ; else ; }", 0, -1);
    error("F ( ) { if ( 1 ) int a ; else int b ; while ( 0 ) int c ; }", 0, -1);
    error("F ( ) { * - ! * & a = * x [ * y ] ; * ( a + 1 ) = x ; * 1 = & a ; }", 0, -1);
    error("F ( ) { a = 1 || 2 && 3 == 4 != 5 < 6 > 7 + 8 - 9 * 10 / 11 % 12 ; }", 0, -1);
    error("F ( ) { return ; return - 1 ; F ( ) ; a = F ( ) ; }", 0, -1);
  }

  /** What nests as deep as 160 TOKENS can, and one TOKEN short of its end. */
  private static void deepForms() {
    error("F ( ) { a = " + Checks.times("(", 73) + "1 " + Checks.times(")", 73) + "; }", 0, -1);
    error(("F ( ) { a = " + Checks.times("(", 154)).trim(), 1, 160);
    error("F ( ) { a = " + Checks.times("-", 151) + "1 ; }", 0, -1);
    error(("F ( ) { " + Checks.times("{", 78) + Checks.times("}", 78)).trim(), 1, 160);
    error(("F ( ) { " + Checks.times("{", 77) + Checks.times("}", 78)).trim(), 0, -1);
    error(("F ( ) { " + Checks.times("if ( 1 )", 38) + "; }").trim(), 0, -1);
    error(("F ( ) { " + Checks.times("while ( 1 )", 38) + "break ; }").trim(), 0, -1);
    error(("F ( ) { a = " + Checks.times("x [", 50) + "1 " + Checks.times("]", 50) + "; }").trim(), 0, -1);
    error(("F ( ) { a = " + Checks.times("1 * (", 37) + "1 " + Checks.times(")", 37) + "; }").trim(), 0, -1);
    error(("F ( ) { a = " + Checks.times("1 || ( 2 && (", 18) + "1 " + Checks.times(") )", 18) + "; }").trim(), 0, -1);
    Checks.due("what nests", Checks.outs("F ( ) { a = " + Checks.times("( 1 +", 35) + "1 " + Checks.times(")", 35) + "; put ( a ) ; }"), "1:36");
    Checks.due("what turns", Checks.outs("F ( ) { a = " + Checks.times("-", 145) + "1 ; put ( a ) ; }"), "1:-1");
  }

  private static void meanings() {
    error("F ( ) { G ( ) ; }", 2, 4);
    error("F ( ) { a = G ( ) ; }", 2, 6);
    error("F ( ) { G ( 1 , 2 ) ; } G ( a ) { }", 3, 4);
    error("F ( ) { G ( ) ; } G ( a ) { }", 3, 4);
    error("F ( ) { G ( 1 ) ; } G ( ) { }", 3, 4);
    error("F ( ) { G ( ( 1 + 2 ) ) ; } G ( a ) { }", 0, -1);
    error("F ( ) { G ( 1 ) ; } G ( a ) { } G ( ) { }", 6, 16);
    error("F ( ) { G ( ) ; } G ( a ) { } G ( ) { }", 3, 4);
    error("F ( ) { a = put ( ) ; }", 3, 6);
    error("F ( ) { a = & b ; int b ; }", 4, 7);
    error("G ( b ) { a = & b ; } F ( ) { }", 4, 8);
    error("G ( b ) { } F ( ) { a = & b ; }", 0, -1);
    error("F ( ) { a = & b ; } G ( ) { int b ; }", 0, -1);
    error("F ( ) { * & a = 1 ; int a ; }", 4, 6);
    error("F ( ) { break ; }", 5, 4);
    error("F ( ) { if ( 1 ) break ; while ( 1 ) break ; }", 5, 8);
    error("F ( ) { while ( 1 ) { if ( 1 ) { break ; } break ; } break ; }", 5, 20);
    error("F ( ) { while ( 1 ) { while ( 2 ) break ; break ; } }", 0, -1);
    error("F ( ) { while ( 1 ) ; } G ( ) { break ; }", 5, 14);
    error("F ( ) { } F ( ) { }", 6, 5);
    error("G ( ) { } F ( ) { } G ( ) { }", 6, 10);
    error("G ( a , b , a ) { } F ( ) { }", 7, 6);
    error("G ( a ) { int a ; } F ( ) { }", 7, 6);
    error("F ( ) { int a ; { int a ; } }", 7, 9);
    error("F ( ) { int a ; } G ( a ) { int b ; }", 0, -1);
    error("G ( ) { }", 8, 5);
    error("F ( a ) { }", 8, 6);
    error("F ( a ) { F ( 1 ) ; }", 8, 11);
    error("F ( a ) { } F ( ) { }", 6, 6);
    // the first in the order of places
    error("F ( ) { break ; G ( ) ; int a ; int a ; a = & a ; }", 5, 4);
    error("F ( ) { a = & a ; break ; int a ; int a ; }", 4, 7);
    error("F ( a ) { break ; } F ( ) { }", 5, 5);
    error("F ( ) { put ( & a ) ; fork ( 1 ) ; int a ; }", 4, 7);
    error("F ( ) { put ( 1 , & a ) ; fork ( 1 ) ; int a ; }", 3, 4);
    // the form goes ahead of all
    error("F ( ) { break ; G ( ) ; ) }", 1, 10);
    String[] takes = {"fork 0", "exec 1", "wait 1", "exit 1", "pipe 1", "read 2", "write 2", "open 2", "close 1", "unlink 1", "kill 2", "on 2", "put 1", "get 1",
        "grow 1", "pid 0", "pause 0", "sync 0"};
    String[] told = {"", "1", "1 , 2", "1 , 2 , 3"};
    for (String service : takes) {
      String[] both = service.split(" ");
      for (int many = 0; many < told.length; many++) {
        boolean isRight = many == Integer.parseInt(both[1]);
        String text = ("F ( ) { " + both[0] + " ( " + told[many] + " ) ; }").replace("(  )", "( )");
        error(text, isRight ? 0 : 3, isRight ? -1 : 4);
      }
    }
  }

  /** What one text left behind is nothing to the next one. */
  private static void afterAnother() {
    Pagekernel x = Checks.with("F ( ) { while ( 1 ) { if ( a ) break ; G ( )");
    Checks.due("kind of a text that is not whole", x.kind(0), 1);
    Checks.write(x, 1, "F ( ) { break ; }");
    Checks.due("kind of the next one", x.kind(1), 5);
    Checks.write(x, 2, "F ( ) { G ( ) ; }");
    Checks.due("kind of the third", x.kind(2), 2);
    Checks.due("isLocal of the third", x.isLocal(2, 0, 0), -1);
  }

  private static void locality() {
    Pagekernel x = Checks.with("G ( c , a ) { int h ; } F ( ) { b = 1 ; { { int d ; } } int b ; }");
    String names = "abcdefgh";
    for (int name = 0; name < 8; name++) {
      Checks.due("isLocal F " + name, x.isLocal(0, 0, name), "bd".indexOf(names.charAt(name)) >= 0 ? 1 : 0);
      Checks.due("isLocal G " + name, x.isLocal(0, 1, name), "ach".indexOf(names.charAt(name)) >= 0 ? 1 : 0);
      Checks.due("isLocal H " + name, x.isLocal(0, 2, name), -1);
      Checks.due("isLocal of no text", x.isLocal(1, 0, name), -1);
    }
    for (int wrong : new int[] {-1, 8, Integer.MAX_VALUE, Integer.MIN_VALUE}) {
      Checks.refused(x, "function " + wrong, Checks.INDEX, () -> x.isLocal(0, wrong == 8 ? 4 : wrong, 0));
      Checks.refused(x, "name " + wrong, Checks.INDEX, () -> x.isLocal(0, 0, wrong));
    }
    x.change(0, 0, Checks.token("H"));
    Checks.due("isLocal H c", x.isLocal(0, 2, 2), 1);
    Checks.due("isLocal G c", x.isLocal(0, 1, 2), -1);
    x.drop(0, 1);
    Checks.due("isLocal with an ERROR", x.isLocal(0, 0, 1), -1);
  }

  public static void main(String[] arguments) {
    newObject();
    typing();
    fullText();
    dropping();
    sampling();
    sampleAnswers();
    changing();
    signs();
    forms();
    deepForms();
    meanings();
    afterAnother();
    locality();
    Checks.end();
  }
}
