import java.lang.reflect.Field;

/**
 * Promise 47 from inside: isSound() of a right machine is always true, so each part of it is put wrong by hand here, and must
 * be noticed. This is the one test that knows names of fields; where one is called otherwise, it says so.
 */
public final class SoundTest {
  private static Field field(Object of, String name) throws ReflectiveOperationException {
    Field field = of.getClass().getDeclaredField(name);
    field.setAccessible(true);
    return field;
  }

  /** What stands behind names that lead from one object to the next, from the Kernel on. */
  private static Object part(Pagekernel x, String path) throws ReflectiveOperationException {
    Object at = field(x, "kernel").get(x);
    for (String name : path.split("\\.")) {
      at = field(at, name).get(at);
    }
    return at;
  }

  private static int[] row(Pagekernel x, String path) throws ReflectiveOperationException {
    return (int[]) part(x, path);
  }

  /** Two PROCESSES share pages, have a PIPE and a FILE; ACTS are PENDING, and pages are out. */
  private static Pagekernel busy() {
    Pagekernel x = Checks.with("F ( ) { grow ( 8 * 4 ) ; x [ 0 ] = 5 ; y [ 8 ] = 6 ; pipe ( x + 2 ) ; open ( 1 , 1 ) ; write ( 2 , 7 ) ; fork ( ) ; write ( 1 , 8 ) ; get ( y ) ; get ( y ) ; }");
    x.store(2, 9);
    x.sync();
    x.start(0);
    x.run(60);
    Checks.due("two PROCESSES", Checks.states(x), "22");
    Checks.due("a sound machine", x.isSound(), true);
    x.press(1);
    x.press(2);
    return x;
  }

  /** A row of the machine, and one place of it that is put wrong. */
  private static void wrong(String sentence, String path, int place, int by) throws ReflectiveOperationException {
    Pagekernel x = busy();
    int[] row = row(x, path);
    row[place] += by;
    Checks.due(sentence + ": " + path + " " + place, x.isSound(), false);
    row[place] -= by;
    Checks.due("as it was: " + path, x.isSound(), true);
  }

  private static int firstWith(int[] row, int least) {
    for (int i = 0; i < row.length; i++) {
      if (row[i] >= least) {
        return i;
      }
    }
    return 0;
  }

  private static void pages() throws ReflectiveOperationException {
    Checks.sentence("each page of the machine's memory is counted as often as it is used, none that two use can be stored to;");
    int[] out = row(busy(), "memory.diskUses");
    Checks.due("a page of both is out", out[firstWith(out, 2)], 2);
    wrong("counted as often as it is used", "memory.diskUses", firstWith(out, 2), 1);
    wrong("counted as often as it is used", "memory.diskUses", firstWith(out, 2), -1);
    Pagekernel y = busy();
    Checks.due("cells of both", y.cell(1, 16) + y.cell(2, 16), "55");
    y.give(1);
    y.step();
    int[] uses = row(y, "memory.uses");
    int used = firstWith(uses, 1);
    Checks.due("a page is in use", uses[used] > 0, true);
    uses[used]++;
    Checks.due("counted once too often", y.isSound(), false);
    Pagekernel z = Checks.begun("F ( ) { x [ 0 ] = 5 ; fork ( ) ; b = x [ 0 ] ; while ( 1 ) ; }", 2);
    int[] shared = row(z, "memory.uses");
    int page = firstWith(shared, 2);
    Checks.due("two use a page", shared[page], 2);
    shared[page]++;
    Checks.due("counted as if three used it", z.isSound(), false);
    z = Checks.begun(z.text(0), 2);
    shared = row(z, "memory.uses");
    int[] table = row(z, "memory.table");
    int[] mayStore = row(z, "memory.mayStore");
    for (int i = 0; i < table.length; i++) {
      if (table[i] == page + 1) {
        mayStore[i] = 1;
        Checks.due("stored to by one of two", z.isSound(), false);
        break;
      }
    }
  }

  /**
   * No row can be put wrong so that just this is not so: where a cell would be lost, a page is counted wrong, too. So this
   * looks at a page that goes out to where another one is already.
   */
  private static void cells() throws ReflectiveOperationException {
    Checks.sentence("each cell of MEMORY of each PROCESS, if all its pages went out and came in again, is what it was;");
    Pagekernel x = Checks.begun("F ( ) { x [ 0 ] = 5 ; y [ 0 ] = 6 ; get ( y ) ; }", 3);
    x.press(1);
    Checks.due("both are out", x.cell(1, 16) + x.cell(1, 24), "56");
    int[] table = row(x, "memory.table");
    int[] uses = row(x, "memory.diskUses");
    int[] where = new int[2];
    int found = 0;
    for (int entry : table) {
      if (entry < 0 && found < 2) {
        where[found] = entry;
        found++;
      }
    }
    Checks.due("two pages are out", found, 2);
    uses[-where[1] - 1] = 0;
    Checks.due("one is told to be free", x.isSound(), false);
  }

  private static void files() throws ReflectiveOperationException {
    Checks.sentence("what is on the disk, read anew, makes FILES of the last SYNC, and with the PENDING ACTS those of now;");
    Pagekernel x = busy();
    int[] disk = row(x, "files.disk");
    boolean hasCell = false;
    // behind this its record may stand in the log still, which is void
    for (int i = 0; i < disk.length && !hasCell; i++) {
      if (disk[i] == 9) {
        wrong("FILES of the last SYNC", "files.disk", i, 1);
        hasCell = true;
      }
    }
    Checks.due("the cell of FILE 2 is on the disk", hasCell, true);
    int[] acts = row(x, "files.acts");
    boolean hasAct = false;
    for (int i = 0; i < acts.length; i++) {
      if (acts[i] == 7) {
        wrong("those of now", "files.acts", i, 1);
        hasAct = true;
      }
    }
    Checks.due("the cell of FILE 1 is in an ACT", hasAct, true);
    int[] now = row(x, "files.now.cells");
    wrong("those of now", "files.now.cells", firstWith(now, 7), 1);
    int[] synced = row(x, "files.synced.cells");
    wrong("FILES of the last SYNC", "files.synced.cells", firstWith(synced, 9), 1);
  }

  private static void descriptors() throws ReflectiveOperationException {
    Checks.sentence("each open DESCRIPTOR leads to an OPENING, and PIPES are there just as they are led to.");
    for (int opening = 0; opening < 3; opening++) {
      wrong("leads to an OPENING", "openings.leads", opening, 1);
      wrong("leads to an OPENING", "openings.leads", opening, -1);
      Pagekernel x = busy();
      row(x, "openings.kinds")[opening] = 0;
      Checks.due("an OPENING that is not there", x.isSound(), false);
    }
    Pagekernel z = busy();
    int[] ends = row(z, "openings.ends");
    int reading = ends[0];
    ends[0] = ends[1];
    ends[1] = reading;
    Checks.due("ends that change places", z.isSound(), false);
    for (int end = 0; end < 2; end++) {
      Pagekernel x = busy();
      row(x, "openings.ends")[end] = -1;
      Checks.due("a PIPE that is led to and not there", x.isSound(), false);
      Pagekernel y = busy();
      row(y, "openings.ends")[2 + end] = 5;
      Checks.due("a PIPE that is there and not led to", y.isSound(), false);
    }
  }

  private static void others() throws ReflectiveOperationException {
    Checks.sentence("IDLE is never above 50;");
    Checks.sentence("1 if isSound(), otherwise 0. Returns d.");
    Pagekernel x = busy();
    long digest = x.digest();
    Object kernel = field(x, "kernel").get(x);
    field(kernel, "mostIdle").setInt(kernel, 50);
    Checks.due("50", x.isSound(), true);
    field(kernel, "mostIdle").setInt(kernel, 51);
    Checks.due("51", x.isSound(), false);
    Checks.due("digest()", x.digest(), digest - 1);
    Checks.sentence("code of LEVEL 2 of each TEXT without ERROR has no more steps than that of LEVEL 0;");
    for (int program = 0; program < 4; program++) {
      Pagekernel y = new Pagekernel();
      Checks.write(y, program, "F ( ) { put ( 1 + 1 ) ; }");
      Checks.due("a TEXT without ERROR", y.isSound(), true);
      Object text = ((Object[]) part(y, "texts"))[program];
      Checks.due("it was weighed", field(text, "isWeighed").getBoolean(text), true);
      field(text, "isLighter").setBoolean(text, false);
      Checks.due("one with more steps", y.isSound(), false);
      y.change(program, 6, 2);
      Checks.due("another TEXT is weighed anew", y.isSound(), true);
    }
  }

  public static void main(String[] arguments) throws ReflectiveOperationException {
    pages();
    cells();
    files();
    descriptors();
    others();
    Checks.end();
  }
}
