import java.util.Map;
import java.util.TreeMap;

/**
 * All that an object tells, each thing by a name: so a test can say just what changes, and that nothing else does.
 * It asks no object more than 512 times: for each PROCESS another one is made that has the same past.
 */
final class Told {
  private static final String[] OF_PROCESS = {"parent", "FRAMES", "BREAK", "signals", "HELD", "PROGRAM", "TICKS", "CODE", "WHY", "DESCRIPTORS", "IDLE", "SLOT"};

  private Told() {
  }

  static TreeMap<String, String> of(Checks.Maker maker) {
    TreeMap<String, String> all = new TreeMap<>();
    Pagekernel x = maker.make();
    int pids = x.house(8);
    put(all, "TURN", x.turn(0));
    put(all, "USED", x.turn(1));
    String[] house = {"", "", "", "", "BODIES", "PENDING", "all TICKS", "QUANTUM", "PIDS", "", "OUTS", "crashes", "knocks", "OPENINGS"};
    for (int what = 0; what <= 13; what++) {
      if (!house[what].isEmpty()) {
        put(all, house[what], x.house(what));
      }
    }
    put(all, "inputs", x.inputs());
    for (int from = 0; from < x.house(10); from += 20) {
      put(all, "outs from " + from, x.out(from));
    }
    for (int pipe = 0; pipe < 4; pipe++) {
      put(all, "pipe " + pipe, x.inPipe(pipe));
    }
    for (int n = 0; n <= x.house(5); n++) {
      put(all, "would " + n, x.would(n));
    }
    for (int program = 0; program < 4; program++) {
      put(all, "text " + program, x.text(program));
    }
    twice(all, x);
    put(all, "LEVEL", x.level(0));
    put(all, "pages", x.frames(12));
    for (int pid = 1; pid <= pids; pid++) {
      process(all, maker.make(), pid);
    }
    for (int pid = 1; pid <= pids; pid++) {
      family(all, maker.make(), pid, pids);
    }
    return all;
  }

  private static void put(Map<String, String> all, String name, Object told) {
    all.put(name, String.valueOf(told));
  }

  private static void process(Map<String, String> all, Pagekernel x, int pid) {
    String of = pid + " ";
    put(all, of + "STATE", x.state(pid));
    for (int what = 0; what <= 11; what++) {
      put(all, of + OF_PROCESS[what], x.ofProcess(pid, what));
    }
    put(all, of + "where", x.where(pid));
    put(all, of + "waitsIn", x.waitsIn(pid));
    if (x.state(pid) == 2) {
      put(all, of + "can", x.can(pid));
    } else {
      Checks.due("can(" + pid + ")", x.can(pid), x.state(pid) == 1);
    }
    put(all, of + "handler 1", x.handler(pid, 1));
    put(all, of + "handler 2", x.handler(pid, 2));
    for (int address = 8; address <= 95; address++) {
      put(all, of + "cell " + address, x.cell(pid, address));
    }
    for (int frame = 0; frame < 12; frame++) {
      put(all, of + "function " + frame, x.function(pid, frame));
      for (int name = 0; name < 8; name++) {
        put(all, of + "local " + frame + " " + Checks.sign(20 + name), x.local(pid, frame, name));
      }
    }
    int open = 0;
    for (int descriptor = 0; descriptor < 6; descriptor++) {
      put(all, of + "descriptor " + descriptor, x.descriptor(pid, descriptor));
      open += x.descriptor(pid, descriptor).equals("-") ? 0 : 1;
    }
    Checks.due("open DESCRIPTORS of " + pid, x.ofProcess(pid, 9), open);
  }

  /** What is told of a family, and of SLOTS, by two ways. */
  private static void family(Map<String, String> all, Pagekernel x, int pid, int pids) {
    StringBuilder children = new StringBuilder();
    for (int child = 1; child <= pids; child++) {
      if (all.get(child + " parent").equals("" + pid) && !all.get(child + " STATE").equals("4")) {
        children.append(children.length() > 0 ? " " : "").append(child);
      }
    }
    Checks.due("children(" + pid + ")", x.children(pid), children.toString());
    boolean isGone = all.get(pid + " STATE").equals("4");
    Checks.due("SLOT of " + pid, all.get(pid + " SLOT").equals("-1"), isGone);
  }

  /** What two calls tell is the same. */
  private static void twice(Map<String, String> all, Pagekernel x) {
    int slots = 0;
    int able = 0;
    for (int pid = 1; pid <= x.house(8); pid++) {
      slots += x.state(pid) < 4 ? 1 : 0;
      able += x.can(pid) ? 1 : 0;
    }
    Checks.due("PROCESSES with a SLOT", x.house(0), slots);
    Checks.due("how many CAN GO ON", x.house(1), able);
    int inputs = x.inputs().isEmpty() ? 0 : x.inputs().split(" ").length;
    Checks.due("INPUTS", x.house(9), inputs);
    StringBuilder now = new StringBuilder();
    int files = 0;
    for (int name = 0; name < 8; name++) {
      String cells = x.inFile(name);
      boolean isThere = !cells.equals("-");
      files += isThere ? 1 : 0;
      Checks.due("size(" + name + ")", x.size(name), !isThere ? -1 : cells.isEmpty() ? 0 : cells.split(" ").length);
      now.append(isThere ? name + "=" + cells.replace(' ', ',') + ";" : "");
    }
    Checks.due("FILES", x.house(3), files);
    Checks.due("FILES of now", x.would(x.house(5)), now.toString());
    int pipes = 0;
    for (int pipe = 0; pipe < 4; pipe++) {
      String cells = x.inPipe(pipe);
      boolean isThere = !cells.equals("-");
      pipes += isThere ? 1 : 0;
      Checks.due("cells of PIPE " + pipe, x.ofPipe(pipe, 0), !isThere ? -1 : cells.isEmpty() ? 0 : cells.split(" ").length);
      put(all, "ends of pipe " + pipe, x.ofPipe(pipe, 1) + " " + x.ofPipe(pipe, 2));
    }
    Checks.due("PIPES", x.house(2), pipes);
    Checks.due("isSound()", x.isSound(), true);
  }

  /** What is due behind a TICK of a PROCESS as far as any TICK goes: TICKS, TURN, USED and IDLE. */
  static TreeMap<String, String> ticked(Map<String, String> before, int pid) {
    TreeMap<String, String> due = new TreeMap<>(before);
    more(due, "all TICKS");
    more(due, pid + " TICKS");
    boolean isSame = before.get("TURN").equals("" + pid) && number(before, "USED") < number(before, "QUANTUM");
    put(due, "TURN", pid);
    put(due, "USED", isSame ? number(before, "USED") + 1 : 1);
    for (int other = 1; other <= number(before, "PIDS"); other++) {
      boolean isAble = before.get(other + " STATE").equals("1") || "true".equals(before.get(other + " can"));
      put(due, other + " IDLE", isAble && other != pid ? number(before, other + " IDLE") + 1 : 0);
    }
    return due;
  }

  private static int number(Map<String, String> all, String name) {
    return Integer.parseInt(all.get(name));
  }

  private static void more(Map<String, String> all, String name) {
    put(all, name, number(all, name) + 1);
  }

  /** What a PROCESS has no more behind its end. */
  static void ended(Map<String, String> due, int pid, int state, int code, int why) {
    String of = pid + " ";
    put(due, of + "STATE", state);
    put(due, of + "CODE", code);
    put(due, of + "WHY", why);
    for (String none : new String[] {"signals", "HELD", "DESCRIPTORS", "IDLE"}) {
      put(due, of + none, 0);
    }
    for (String none : new String[] {"where", "waitsIn", "handler 1", "handler 2"}) {
      put(due, of + none, -1);
    }
    due.remove(of + "can");
    for (String name : due.keySet().toArray(new String[0])) {
      if (name.startsWith(of + "cell") || name.startsWith(of + "local") || name.startsWith(of + "descriptor")) {
        due.put(name, "-");
      }
      if (name.startsWith(of + "function")) {
        due.put(name, "-1");
      }
    }
    if (state == 4) {
      put(due, of + "SLOT", -1);
    }
  }

  /** Changes are written "name=value"; "name=none" takes a name away. */
  static void apply(Map<String, String> due, String... changes) {
    for (String change : changes) {
      int sign = change.indexOf('=');
      String name = change.substring(0, sign);
      String value = change.substring(sign + 1);
      if (value.equals("none")) {
        due.remove(name);
      } else {
        due.put(name, value);
      }
    }
  }

  /** Each difference is told for itself. */
  static void same(String what, Map<String, String> got, Map<String, String> due) {
    TreeMap<String, String> names = new TreeMap<>(got);
    names.putAll(due);
    int different = 0;
    for (String name : names.keySet()) {
      if (got.get(name) == null || !got.get(name).equals(due.get(name))) {
        Checks.due(name + " behind " + what, got.get(name), due.get(name));
        different++;
      }
    }
    Checks.due("how many are wrong behind " + what, different, 0);
  }
}
