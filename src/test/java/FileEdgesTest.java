import java.util.ArrayList;
import java.util.List;
import java.util.TreeMap;

/** Section 6 of the document at its edges, and promises 29 to 48: FILES, crashes, INPUTS, OUTS, inner things, the house. */
public final class FileEdgesTest {
  private static final int LEAST = Integer.MIN_VALUE;
  private static final int MOST = Integer.MAX_VALUE;

  /** FILES as nobody's calls change them, and what they were behind each PENDING ACT. */
  private static final class Model {
    private final TreeMap<Integer, List<Integer>> files = new TreeMap<>();
    private final List<String> behind = new ArrayList<>(List.of(""));

    private String text() {
      StringBuilder all = new StringBuilder();
      for (int name : files.keySet()) {
        all.append(name).append('=').append(cells(name, ",")).append(';');
      }
      return all.toString();
    }

    String cells(int name, String between) {
      List<String> cells = new ArrayList<>();
      for (int cell : files.get(name)) {
        cells.add("" + cell);
      }
      return String.join(between, cells);
    }

    private void act() {
      behind.add(text());
      if (pending() == 20) {
        sync();
      }
    }

    int pending() {
      return behind.size() - 1;
    }

    int sync() {
      int had = pending();
      behind.clear();
      behind.add(text());
      return had;
    }

    int store(int name, int value) {
      if (!files.containsKey(name)) {
        files.put(name, new ArrayList<>());
        act();
      }
      if (files.get(name).size() == 16) {
        return -9;
      }
      files.get(name).add(value);
      act();
      return files.get(name).size();
    }

    int remove(int name) {
      if (files.remove(name) == null) {
        return 0;
      }
      act();
      return 1;
    }
  }

  /** The step of a long row of calls: mostly cells for a few FILES, at times a name less or a SYNC. */
  private static int step(Pagekernel x, int i) {
    int name = i * i % 11 % 8;
    return i % 23 == 22 ? x.sync() : i % 7 == 6 ? x.remove(name) : x.store(name, i * 1000003);
  }

  private static int step(Model m, int i) {
    int name = i * i % 11 % 8;
    return i % 23 == 22 ? m.sync() : i % 7 == 6 ? m.remove(name) : m.store(name, i * 1000003);
  }

  private static void tellsAs(Pagekernel x, Model m) {
    Checks.due("PENDING", x.house(5), m.pending());
    for (int n = 0; n <= m.pending(); n++) {
      Checks.due("would(" + n + ")", x.would(n), m.behind.get(n));
    }
    for (int name = 0; name < 8; name++) {
      boolean isThere = m.files.containsKey(name);
      Checks.due("size", x.size(name), isThere ? m.files.get(name).size() : -1);
      Checks.due("inFile", x.inFile(name), isThere ? m.cells(name, " ") : "-");
    }
    Checks.due("FILES and BODIES", x.house(3) * 100 + x.house(4), m.files.size() * 101);
  }

  // ---- FILES

  private static void sixteenCells() {
    Checks.sentence("FILES: names 0 to 7, each with a BODY of at most 16 cells.");
    Checks.sentence("Returns how many cells it has then; -9, if it has 16, or there is none, and there are 12 BODIES.");
    for (int name = 0; name < 8; name++) {
      Pagekernel x = new Pagekernel();
      Checks.due("no FILE", x.size(name) + x.inFile(name), "-1-");
      for (int i = 1; i <= 16; i++) {
        Checks.due("store", x.store(name, i == 1 ? LEAST : i == 16 ? MOST : -i), i);
        Checks.due("size", x.size(name), i);
        Checks.due("cells", x.inFile(name).split(" ").length, i);
      }
      int acts = x.house(5);
      Checks.due("17 ACTS", acts, 17);
      Checks.due("a 17th", x.store(name, 0), -9);
      Checks.due("no ACT", x.house(5), acts);
      Checks.due("cells", x.inFile(name), LEAST + " -2 -3 -4 -5 -6 -7 -8 -9 -10 -11 -12 -13 -14 -15 " + MOST);
      Checks.due("would", x.would(17), name + "=" + x.inFile(name).replace(' ', ',') + ";");
      Checks.due("remove", x.remove(name) * 10 + x.remove(name), 10);
      Checks.due("no FILE then", x.size(name) + x.inFile(name), "-1-");
      Checks.due("a new one", x.store(name, 5) * 10 + x.size(name), 11);
    }
    Checks.sentence("Nobody's PROCESS adds a cell at the end of a FILE: if there is none, it is made first (both are ACTS).");
    Pagekernel x = new Pagekernel();
    for (int name = 7; name >= 0; name--) {
      Checks.due("store", x.store(name, name), 1);
      Checks.due("two ACTS each", x.house(5), 2 * (8 - name));
    }
    Checks.due("by names", x.would(16), "0=0;1=1;2=2;3=3;4=4;5=5;6=6;7=7;");
    Checks.due("the last without its cell", x.would(15), "0=;1=1;2=2;3=3;4=4;5=5;6=6;7=7;");
    Checks.sentence("Returns its cells with a blank between two; \"-\" without a FILE.");
    Pagekernel y = Checks.begun("F ( ) { open ( 3 , 1 ) ; get ( y ) ; }", 2);
    Checks.due("a FILE without cells", y.inFile(3) + "/" + y.size(3) + "/" + y.would(1), "/0/3=;");
    Checks.due("its first cell", y.store(3, 4), 1);
  }

  private static void twentyActs() {
    Checks.sentence("ACTS are PENDING since the last SYNC; as there are 20, they are SYNCED at once (0 then).");
    // each kind of ACT as the 18th, the 19th, the 20th and the 21st
    String[] kinds = {"write ( 0 , 5 ) ;", "open ( 6 , 1 ) ;", "open ( 1 , 2 ) ;", "unlink ( 1 ) ;"};
    for (int before = 17; before <= 19; before++) {
      for (String kind : kinds) {
        Pagekernel x = Checks.begun("F ( ) { open ( 1 , 1 ) ; get ( y ) ; " + kind + " get ( y ) ; }", 2);
        x.store(1, 7);
        x.sync();
        for (int i = 0; x.house(5) < before; i++) {
          x.store(2 + i % 2, i);
        }
        Checks.due("PENDING before", x.house(5), before);
        String past = x.would(0);
        x.give(0);
        x.run(9);
        Checks.due("PENDING behind " + kind, x.house(5), (before + 1) % 20);
        if (before == 19) {
          Checks.due("SYNCED", x.would(0), x.would(x.house(5)));
          Checks.due("not what was", x.would(0).equals(past), false);
        } else {
          Checks.due("not SYNCED", x.would(0), past);
        }
        String now = x.would(x.house(5));
        x.crash(x.house(5), true);
        Checks.due("FILES behind a crash", x.would(0), now);
      }
    }
    // nobody's calls: a name less, a cell more, and one that is made
    Pagekernel y = new Pagekernel();
    Model m = new Model();
    for (int i = 0; i < 90; i++) {
      Checks.due("step " + i, step(y, i), step(m, i));
      Checks.due("PENDING", y.house(5), m.pending());
      Checks.due("SYNCED", y.would(0), m.behind.get(0));
    }
    tellsAs(y, m);
  }

  // ---- crashes

  private static Pagekernel stepped(int many) {
    Pagekernel x = new Pagekernel();
    for (int i = 0; i < many; i++) {
      step(x, i);
    }
    return x;
  }

  private static void eachCrash() {
    Checks.sentence("A CRASH: FILES are what they were behind the first n PENDING ACTS (n 0: behind the last SYNC).");
    Model m = new Model();
    for (int many = 0; many <= 60; many++) {
      for (int n = 0; n <= m.pending(); n++) {
        Pagekernel x = stepped(many);
        String due = m.behind.get(n);
        int files = due.split(";").length - (due.isEmpty() ? 1 : 0);
        Checks.due("crash(" + n + ") behind " + many, x.crash(n, (n + many) % 2 == 0), files);
        Checks.due("FILES", x.would(0), due);
        Checks.due("FILES, BODIES, PENDING", x.house(3) * 10000 + x.house(4) * 100 + x.house(5), files * 10100);
        // what is torn or lost never comes again, whatever is written then
        x.store(n % 8, 77);
        int pending = x.house(5);
        String then = x.would(pending);
        x.crash(pending - 1, true);
        String all = x.would(0);
        x.store(7, 3);
        x.halted(n);
        Checks.due("the last ACT of the second one is lost", all.length() < then.length(), true);
        Checks.due("isSound()", x.isSound(), true);
      }
      step(m, many);
    }
    Checks.sentence("Returns FILES as they would be behind crash(n, ..): by names, each the name, \"=\", its cells with \",\" between, and \";\".");
    Pagekernel none = new Pagekernel();
    Checks.due("no FILE", none.would(0), "");
    Checks.due("crash of nothing", none.crash(0, true) + none.would(0) + none.house(11), "01");
    Checks.due("halted with nothing", none.halted(0) + none.would(0) + none.house(11), "02");
  }

  private static void eachHalt() {
    Checks.sentence("A SYNC that is halted by a CRASH (it counts as one), as it had written all ACTS and then k more blocks of the disk: FILES stay what they are.");
    for (int k = 0; k <= 99; k++) {
      int many = 20 + k % 41;
      Pagekernel x = stepped(many);
      Model m = new Model();
      for (int i = 0; i < many; i++) {
        step(m, i);
      }
      m.sync();
      Checks.due("halted(" + k + ")", x.halted(k), m.files.size());
      Checks.due("crashes", x.house(11), 1);
      tellsAs(x, m);
      for (int i = many; i < many + 30; i++) {
        Checks.due("step " + i, step(x, i), step(m, i));
      }
      tellsAs(x, m);
      m.sync();
      Checks.due("halted again", x.halted(99 - k), m.files.size());
      tellsAs(x, m);
      Checks.due("crash behind it", x.crash(0, true), m.files.size());
      tellsAs(x, m);
      Checks.due("crashes", x.house(11), 3);
      Checks.due("isSound()", x.isSound(), true);
    }
  }

  private static void crashOfAll() {
    Checks.sentence("all PROCESSES are GONE (as if each ended, with CODE 0 and WHY 6, but of one that is ENDED or GONE ahead of it these stay; parents are 0), with PIPES, OPENINGS and INPUTS; TURN is NONE; "
        + "OUTS stay; nothing is PENDING; FILES are as is told.");
    for (int way = 0; way < 3; way++) {
      Pagekernel x = Checks.with("F ( ) { int b ; pipe ( x ) ; open ( 3 , 1 ) ; unlink ( 3 ) ; b = fork ( ) ; if ( b == 0 ) exit ( 5 ) ; b = fork ( ) ; if ( b == 0 ) a = 1 / 0 ; wait ( 0 ) ; b = fork ( ) ; "
          + "if ( b == 0 ) { grow ( 7 ) ; get ( y ) ; } put ( 6 ) ; get ( y ) ; }");
      x.start(0);
      x.run(50);
      x.give(1);
      x.give(2);
      Checks.due("STATES", "" + x.state(1) + x.state(2) + x.state(3) + x.state(4), "2432");
      Checks.due("much is there", x.house(2) > 0 && x.house(13) > 0 && x.house(4) == 1 && x.house(9) > 0 && x.house(5) > 0, true);
      int ticks = x.house(6);
      int files = way == 0 ? x.crash(0, true) : way == 1 ? x.crash(x.house(5), false) : x.halted(9);
      Checks.due("FILES", files, 0);
      int[] codes = {0, 5, 202, 0};
      int[] whys = {6, 1, 3, 6};
      for (int pid = 1; pid <= 4; pid++) {
        Checks.due("STATE, parent, SLOT", x.state(pid) * 100 + x.ofProcess(pid, 0) * 10 + x.ofProcess(pid, 11), 399);
        Checks.due("CODE", x.ofProcess(pid, 7), codes[pid - 1]);
        Checks.due("WHY", x.ofProcess(pid, 8), whys[pid - 1]);
        Checks.due("BREAK", x.ofProcess(pid, 2), pid == 4 ? 39 : 32);
        Checks.due("signals, HELD, DESCRIPTORS, IDLE", x.ofProcess(pid, 3) + x.ofProcess(pid, 4) + x.ofProcess(pid, 9) + x.ofProcess(pid, 10), 0);
      }
      int[] houses = {0, 0, 0, 0, 0, 0, ticks, 3, 4, 0, 1, 1, 0, 0};
      for (int what = 0; what <= 13; what++) {
        Checks.due("house(" + what + ")", x.house(what), houses[what]);
      }
      Checks.due("TURN, USED, next", x.turn(0) + "/" + x.turn(1) + "/" + x.turn(2), "-1/0/-1");
      Checks.due("OUTS and INPUTS", x.out(0) + "/" + x.inputs(), "1:6/");
      Checks.due("the PROGRAM stays", x.start(0), 5);
    }
  }

  // ---- INPUTS, OUTS, PIPES

  private static void tenInputs() {
    Checks.sentence("Returns INPUTS that are there, the first one first, with a blank between two; \"\" without any.");
    Pagekernel x = new Pagekernel();
    Checks.due("none", x.inputs(), "");
    String due = "";
    for (int i = 1; i <= 10; i++) {
      int value = i == 1 ? MOST : i == 10 ? LEAST : i * i;
      Checks.due("give", x.give(value), i);
      due = due.isEmpty() ? "" + value : due + " " + value;
      Checks.due("inputs", x.inputs(), due);
      Checks.due("house(9)", x.house(9), i);
    }
    Checks.due("an eleventh", Checks.answer(x, y -> y.give(1)), Checks.STATE);
    Checks.due("ten still", x.inputs(), due);
    Checks.write(x, 0, "F ( ) { while ( 1 ) get ( & a ) ; }");
    x.start(0);
    for (int left = 9; left >= 0; left--) {
      Checks.ticks(x, 2);
      Checks.due("left", x.house(9), left);
      due = left == 0 ? "" : due.substring(due.indexOf(' ') + 1);
      Checks.due("inputs", x.inputs(), due);
    }
    Checks.due("the last that was taken", x.cell(1, 8), "" + LEAST);
  }

  private static void twentyOuts() {
    Checks.sentence("Returns at most 20 OUTS from that on, each PID, \":\", the value, with a blank between two; \"\" without any.");
    for (int many : new int[] {0, 1, 19, 20, 21, 40, 41}) {
      Pagekernel x = Checks.begun("F ( ) { get ( & a ) ; while ( b < a ) { put ( b ) ; b = b + 1 ; } }", 0);
      x.give(many);
      x.run(200);
      Checks.due("house(10)", x.house(10), many);
      for (int from : new int[] {0, 1, many - 21, many - 20, many - 19, many - 1, many, many + 1, MOST}) {
        if (from >= 0) {
          StringBuilder due = new StringBuilder();
          for (int i = from; i < many && i < from + 20; i++) {
            due.append(i > from ? " " : "").append("1:").append(i);
          }
          Checks.due("out(" + from + ") of " + many, x.out(from), due.toString());
        }
      }
    }
  }

  private static void fourPipes() {
    Checks.sentence("Returns that; NONE, if it is not there.");
    Pagekernel x = Checks.begun("F ( ) { pipe ( x ) ; fork ( ) ; fork ( ) ; get ( y ) ; }", 0);
    for (int pipe = 0; pipe < 4; pipe++) {
      Checks.due("not there", x.inPipe(pipe) + x.ofPipe(pipe, 0) + x.ofPipe(pipe, 1) + x.ofPipe(pipe, 2), "--1-1-1");
    }
    Checks.ticks(x, 1);
    Checks.due("empty", x.inPipe(0) + "/" + x.ofPipe(0, 0) + x.ofPipe(0, 1) + x.ofPipe(0, 2), "/011");
    x.run(60);
    Checks.due("of four PROCESSES", x.ofPipe(0, 1) * 10 + x.ofPipe(0, 2), 44);
    Pagekernel y = Checks.begun("F ( ) { pipe ( x ) ; while ( b < 5 ) { c = fork ( ) ; if ( c == 0 ) get ( y ) ; b = b + 1 ; } get ( y ) ; }", 0);
    y.run(200);
    Checks.due("of six", y.house(0) * 100 + y.ofPipe(0, 1) * 10 + y.ofPipe(0, 2), 666);
    Checks.due("OPENINGS", y.house(13), 2);
    Checks.sentence("Returns its cells, the one that comes out first first, with a blank between two; \"-\", if it is not there.");
    Pagekernel z = Checks.begun("F ( ) { pipe ( x ) ; pipe ( x ) ; while ( 1 ) { get ( & a ) ; write ( 3 , a ) ; } }", 0);
    int[] values = {LEAST, MOST, 0, -1};
    String due = "";
    for (int value : values) {
      z.give(value);
      z.run(60);
      due = due.isEmpty() ? "" + value : due + " " + value;
      Checks.due("inPipe(1)", z.inPipe(1), due);
      Checks.due("inPipe(0)", z.inPipe(0) + z.inPipe(2), "-");
    }
  }

  // ---- the house

  private static void houseAtItsMost() {
    Checks.sentence("`what`: 0 PROCESSES with a SLOT, 1 how many CAN GO ON, 2 PIPES, 3 FILES, 4 BODIES, 5 PENDING ACTS, 6 all TICKS, 7 QUANTUM, 8 PIDS given, 9 INPUTS, 10 OUTS, 11 crashes, "
        + "12 how often one knocked, 13 OPENINGS");
    Pagekernel x = new Pagekernel();
    for (int what = 0; what <= 13; what++) {
      Checks.due("house(" + what + ") at first", x.house(what), what == 7 ? 3 : 0);
    }
    Checks.write(x, 0, "F ( ) { while ( a < 6 ) { open ( a , 3 ) ; a = a + 1 ; } while ( 1 ) ; }");
    for (int i = 0; i < 6; i++) {
      x.start(0);
    }
    x.run(200);
    Checks.due("six PROCESSES with six OPENINGS each", x.house(0) * 1000 + x.house(1) * 100 + x.house(13), 6636);
    Checks.due("FILES and BODIES", x.house(3) * 10 + x.house(4), 66);
    Checks.due("ACTS", x.house(5), 6);
    for (int name = 0; name < 6; name++) {
      x.remove(name);
    }
    Checks.due("without names", x.house(3) * 10 + x.house(4), 6);
    for (int name = 0; name < 6; name++) {
      Checks.due("store", x.store(name, 1), 1);
    }
    Checks.due("twelve BODIES", x.house(3) * 100 + x.house(4), 612);
    Checks.due("ACTS, a SYNC among them", x.house(5), 4);
    Checks.due("a 13th", x.store(6, 1), -9);
    Checks.due("TICKS and PIDS", x.house(6) * 10 + x.house(8), 2006);
    Checks.due("isSound()", x.isSound(), true);
    Pagekernel y = Checks.with("F ( ) { fork ( ) ; pipe ( x ) ; pipe ( x ) ; pipe ( x ) ; get ( y ) ; }");
    y.start(0);
    y.run(60);
    Checks.due("four PIPES", y.house(2) * 10 + y.house(13), 48);
    Checks.sentence("Returns how often one knocked, with this.");
    for (int i = 1; i <= 99; i++) {
      Checks.due("knock()", y.knock(), i);
    }
    Checks.due("house(12)", y.house(12), 99);
    y.crash(0, false);
    Checks.due("behind a crash", y.house(12) * 10 + y.house(11), 991);
  }

  // ---- inner things

  private static void innerThings() {
    Checks.sentence("FRAMES, LEVELS and what is pressed are inner things:");
    String text = "F ( ) { int d ; grow ( 8 * 8 ) ; while ( b < 5 ) { c = fork ( ) ; if ( c == 0 ) { d = 16 ; e = pid ( ) ; while ( d < 12 * 8 ) { * d = d * e + * d ; d = d + 3 ; } get ( & f ) ; } "
        + "b = b + 1 ; } d = 17 ; while ( d < 12 * 8 ) { * d = - d ; d = d + 5 ; } get ( & f ) ; }";
    long due = 0;
    for (int way = 0; way < 12; way++) {
      Pagekernel x = Checks.with(text);
      Checks.due("kind", x.kind(0), 0);
      x.frames(way % 3 == 0 ? 8 : way % 3 == 1 ? 40 : 8 + way);
      x.level(way / 4);
      x.start(0);
      for (int i = 0; i < 40; i++) {
        x.run(29);
        if (way % 2 == 1) {
          Checks.due("press", x.press(1 + i % 7), i % 7 < 6 && x.state(1 + i % 7) > 0 ? 1 : 0);
        }
        if (way % 4 > 1) {
          x.frames(i % 2 == 0 ? 8 : 40);
        }
      }
      Checks.due("all WAIT", x.house(0) * 10 + x.house(1), 60);
      for (int pid = 2; pid <= 6; pid++) {
        for (int address : new int[] {16, 31, 34, 94}) {
          Checks.due("cell " + address + " of " + pid, x.cell(pid, address), (address - 16) % 3 == 0 ? "" + address * pid : "0");
        }
      }
      Checks.due("cells of the first", x.cell(1, 17) + x.cell(1, 92) + x.cell(1, 95), "-17-920");
      Checks.due("isSound()", x.isSound(), true);
      long digest = x.digest();
      due = way == 0 ? digest : due;
      Checks.due("digest() whatever is inside", digest, due);
    }
  }

  /** Pages that are out as they are left: by an end, exec(), a BREAK that goes down, and a child that parts from them. */
  private static void leftOnTheDisk() {
    Checks.sentence("each page of the machine's memory is counted as often as it is used, none that two use can be stored to;");
    String own = "F ( ) { grow ( 8 * 8 ) ; while ( a < 10 ) { x [ a * 8 ] = a + 1 ; a = a + 1 ; } ";
    String[] leaving = {"get ( y ) ; }", "get ( y ) ; exec ( 1 ) ; }", "get ( y ) ; grow ( - 3 * 19 ) ; get ( y ) ; }", "get ( y ) ; fork ( ) ; get ( y ) ; }", "fork ( ) ; get ( y ) ; h = 5 ; x [ 15 ] = 6 ; get ( y ) ; }",
      "fork ( ) ; get ( y ) ; grow ( - 8 * 8 ) ; grow ( 8 * 8 ) ; get ( y ) ; }"};
    for (String leave : leaving) {
      Pagekernel x = Checks.with(own + leave);
      Checks.write(x, 1, "F ( ) { get ( y ) ; }");
      for (int round = 0; round < 9; round++) {
        int pid = x.start(0);
        x.run(200);
        x.press(pid);
        x.frames(8);
        Checks.due("isSound() with pages out", x.isSound(), true);
        x.press(pid);
        x.give(0);
        x.give(0);
        x.run(200);
        Checks.due("isSound() behind " + leave, x.isSound(), true);
        x.press(pid);
        x.press(pid + 1);
        for (int p = 1; p <= x.house(8); p++) {
          x.send(p, 3);
        }
        x.run(200);
        Checks.due("all are GONE", x.house(0), 0);
        Checks.due("isSound() behind the end", x.isSound(), true);
        x.frames(9 + round);
      }
    }
    Pagekernel y = Checks.with(own + "get ( y ) ; }");
    y.frames(40);
    for (int i = 0; i < 6; i++) {
      y.start(0);
    }
    y.run(200);
    y.run(200);
    for (int frames = 40; frames >= 8; frames--) {
      y.frames(frames);
      Checks.due("isSound() with " + frames + " FRAMES", y.isSound(), true);
      y.frames(Math.min(40, frames + 5));
      y.frames(frames);
    }
    for (int pid = 1; pid <= 6; pid++) {
      for (int address = 16; address < 96; address += 8) {
        Checks.due("cell " + address, y.cell(pid, address), "" + (address / 8 - 1));
      }
    }
  }

  /** One of two that share a page stores, and all FRAMES are in use: the page that goes out must not be the shared one. */
  private static void partedWithoutRoom() {
    Checks.sentence("none that two use can be stored to; each cell of MEMORY of each PROCESS, if all its pages went out and came in again, is what it was;");
    // just as many pages as FRAMES at the fork, and then a store to each, in the order that two INPUTS tell
    String text = "F ( ) { int c ; int d ; int e ; grow ( 8 * 5 ) ; d = 16 ; while ( d < 8 * 9 ) { * d = d ; d = d + 8 ; } get ( & b ) ; get ( & g ) ; c = fork ( ) ; e = pid ( ) ; d = 0 ; "
        + "while ( d < 8 ) { * ( 15 + ( b + d * g ) % 8 * 8 ) = d * 2 + e ; d = d + 1 ; } get ( & f ) ; }";
    for (int first = 0; first < 8; first++) {
      for (int stride = 1; stride < 8; stride += 2) {
        Pagekernel x = Checks.with(text);
        Checks.due("kind", x.kind(0), 0);
        x.frames(8 + stride / 6);
        x.quantum(first % 2 == 0 ? 10 : 1);
        x.start(0);
        x.give(first);
        x.give(stride);
        for (int i = 0; i < 80; i++) {
          x.run(2);
        }
        Checks.due("both WAIT", x.house(8) * 10 + x.house(1), 20);
        Checks.due("isSound()", x.isSound(), true);
        for (int pid = 1; pid <= 2; pid++) {
          for (int d = 0; d < 8; d++) {
            int page = (first + d * stride) % 8 * 8;
            Checks.due("the cell that was stored, " + first + " by " + stride, x.cell(pid, 15 + page), "" + (d * 2 + pid));
            Checks.due("one beside it", x.cell(pid, 8 + page), page == 0 ? "0" : "" + (8 + page));
          }
        }
      }
    }
  }

  // ---- the checksum

  private static void digests() {
    Checks.sentence("A number d starts with 7605; then d becomes d * 31 + v, which wraps around as a 64-bit integer, for each v in this order (of a text the codes of its signs):");
    Checks.due("of a new object", new Pagekernel().digest(), Checks.digestOf(Pagekernel::new));
    Checks.sentence("the last 20 OUTS by out() (from 0 on, if there are fewer);");
    for (int many : new int[] {0, 1, 2, 19, 20, 21, 22}) {
      Checks.Maker maker = () -> {
        Pagekernel x = Checks.begun("F ( ) { get ( & a ) ; while ( b < a ) { put ( - b ) ; b = b + 1 ; } get ( & a ) ; }", 0);
        x.give(many);
        x.run(200);
        return x;
      };
      Checks.due("with " + many + " OUTS", maker.make().digest(), Checks.digestOf(maker));
    }
    String[] texts = {"F ( ) { pipe ( x ) ; open ( 7 , 1 ) ; write ( 2 , - 1 ) ; write ( 1 , 5 ) ; fork ( ) ; while ( 1 ) { grow ( 1 ) ; put ( 3 ) ; } }",
      "I ( a , h ) { int c ; while ( 1 ) c = c + a ; } F ( ) { I ( - 9 , 9 ) ; }", "F ( ) { fork ( ) ; fork ( ) ; a = pid ( ) ; if ( a > 2 ) exit ( - a ) ; wait ( & b ) ; get ( & b ) ; a = 1 / c ; }",
      "G ( a ) { a = a + 1 ; G ( a ) ; } F ( ) { G ( 0 ) ; }"};
    for (String text : texts) {
      for (int ticks = 0; ticks < 30; ticks++) {
        int many = ticks;
        Checks.Maker maker = () -> {
          Pagekernel x = Checks.begun(text, 0);
          x.type(1, 30, 42, 43, -1, -1);
          x.start(0);
          for (int i = 0; i < many; i++) {
            x.run(3);
          }
          x.knock();
          return x;
        };
        Checks.due(text + " behind " + 3 * ticks, maker.make().digest(), Checks.digestOf(maker));
      }
    }
    Checks.due("behind a crash", stepped(50).digest(), Checks.digestOf(() -> stepped(50)));
  }

  // ---- 512 calls

  private static void fiveHundredCalls() {
    Checks.sentence("An object is used for at most 512 calls after it has been made; what later calls answer is free.");
    Pagekernel x = Checks.begun("F ( ) { while ( 1 ) { put ( 1 ) ; put ( 2 ) ; put ( 3 ) ; put ( 4 ) ; put ( 5 ) ; put ( 6 ) ; put ( 7 ) ; put ( 8 ) ; put ( 9 ) ; } }", 0);
    int calls = 15;
    for (; calls < 505; calls++) {
      x.run(200);
    }
    int outs = x.house(10);
    Checks.due("TICKS", x.house(6), 490 * 200);
    Checks.due("its TICKS", x.ofProcess(1, 6), 490 * 200);
    Checks.due("OUTS", outs, 490 * 180);
    Checks.due("the last ones", x.out(outs - 3), "1:7 1:8 1:9");
    Checks.due("the first ones", x.out(0).substring(0, 11), "1:1 1:2 1:3");
    Checks.due("isSound()", x.isSound(), true);
    Pagekernel y = new Pagekernel();
    Checks.write(y, 0, "F ( ) { grow ( 8 * 8 ) ; while ( a < 12 ) { x [ a * 8 - 8 ] = a ; a = a + 1 ; } while ( 1 ) ; }");
    for (int i = 0; i < 6; i++) {
      y.start(0);
    }
    y.run(200);
    long first = y.digest();
    for (int i = 0; i < 400; i++) {
      Checks.due("digest() again", y.digest(), first);
    }
    Pagekernel z = new Pagekernel();
    for (int i = 0; i < 240; i++) {
      Checks.due("a crash of many", i % 2 == 0 ? z.store(i % 8, i) > 0 || z.remove(i % 8) == 1 : z.crash(z.house(5), true) >= 0, true);
    }
    Checks.due("isSound()", z.isSound(), true);
  }

  public static void main(String[] arguments) {
    sixteenCells();
    twentyActs();
    eachCrash();
    eachHalt();
    crashOfAll();
    tenInputs();
    twentyOuts();
    fourPipes();
    houseAtItsMost();
    innerThings();
    leftOnTheDisk();
    partedWithoutRoom();
    digests();
    fiveHundredCalls();
    Checks.end();
  }
}
