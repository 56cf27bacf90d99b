import java.util.Arrays;

/**
 * A kernel with pages over a machine of its own: PROGRAMS in a part of C, PROCESSES, PIPES, signals, pages and FILES.
 *
 * <p>The words in capitals are those of the document. This class is the face: it looks at what it is told, throws
 * what the document names, and asks the Kernel inside. None of its calls lets the Java machine throw.
 */
public final class Pagekernel {
  private static final int NONE = -1;
  private static final int REFUSED = -9;

  private static final int PROGRAMS = 4;
  private static final int MOST_TOKENS = 160;
  private static final int SAMPLES = 8;
  private static final int FUNCTIONS = 4;
  private static final int NAMES = 8;
  private static final int SLOTS = 6;
  private static final int MOST_PIDS = 60;
  private static final int MOST_FRAMES = 12;
  private static final int DESCRIPTORS = 6;
  private static final int PIPES = 4;
  private static final int PIPE_CELLS = 4;
  private static final int BODIES = 12;
  private static final int BODY_CELLS = 16;
  private static final int MOST_ACTS = 20;
  private static final int MOST_INPUTS = 10;
  /** 512 calls of 200 TICKS each: no run can tell more. */
  private static final int MOST_OUTS = 102400;
  private static final int OUTS_TOLD = 20;
  private static final int MOST_IDLE = 50;

  // ADDRESSES
  private static final int FIRST_CELL = 8;
  private static final int FIRST_ROW_CELL = 16;
  private static final int HEAP = 32;
  private static final int MOST_BREAK = 96;
  private static final int PAGE = 8;
  private static final int TABLE = MOST_BREAK / PAGE;

  // STATES of a PROCESS, and WHY it ended (a TRAP k has WHY 1 + k)
  private static final int READY = 1;
  private static final int WAITING = 2;
  private static final int ENDED = 3;
  private static final int GONE = 4;
  private static final int BY_RETURN = 1;
  private static final int BY_SIGNAL = 5;
  private static final int BY_CRASH = 6;

  // TOKENS
  private static final int TOKENS = 80;
  private static final int SIGN = 6;
  private static final int NAME = 20;
  private static final int ROW = 28;
  private static final int FUNCTION = 30;
  private static final int INT = 34;
  private static final int IF = 35;
  private static final int ELSE = 36;
  private static final int WHILE = 37;
  private static final int BREAK = 38;
  private static final int GIVE_BACK = 39;
  private static final int OPEN_BLOCK = 40;
  private static final int CLOSE_BLOCK = 41;
  private static final int OPEN = 42;
  private static final int CLOSE = 43;
  private static final int OPEN_PLACE = 44;
  private static final int CLOSE_PLACE = 45;
  private static final int COMMA = 46;
  private static final int SEMICOLON = 47;
  private static final int ASSIGN = 48;
  private static final int OR = 49;
  private static final int AND = 50;
  private static final int EQUAL = 51;
  private static final int MINUS = 56;
  private static final int STAR = 57;
  private static final int PERCENT = 59;
  private static final int BANG = 60;
  private static final int AMPERSAND = 61;
  private static final int SERVICE = 62;
  private static final int FORK = 62;
  private static final int EXEC = 63;
  private static final int WAIT = 64;
  private static final int EXIT = 65;
  private static final int PIPE = 66;
  private static final int READ = 67;
  private static final int WRITE = 68;
  private static final int OPEN_FILE = 69;
  private static final int CLOSE_FILE = 70;
  private static final int UNLINK = 71;
  private static final int KILL = 72;
  private static final int ON = 73;
  private static final int PUT = 74;
  private static final int GET = 75;
  private static final int GROW = 76;
  private static final int PID = 77;
  private static final int PAUSE = 78;
  private static final int SYNC = 79;

  /** How many E a SERVICE takes, from fork on. */
  private static final int[] TAKES = {0, 1, 1, 1, 1, 2, 2, 2, 1, 1, 2, 2, 1, 1, 1, 0, 0, 0};
  /** The level of an operator, from "||" on: the weakest is 0. */
  private static final int[] LEVELS = {0, 1, 2, 2, 3, 3, 4, 4, 5, 5, 5};
  private static final int STRONGEST = 5;

  // The signs of the TOKENS, twenty in a text, SIGN places each.
  private static final String NUMBER_SIGNS =
      "0     1     2     3     4     5     6     7     8     9     10    11    12    13    14    15    16    17    18    19    ";
  private static final String NAME_SIGNS =
      "a     b     c     d     e     f     g     h     x     y     F     G     H     I     int   if    else  while break return";
  private static final String MARK_SIGNS =
      "{     }     (     )     [     ]     ,     ;     =     ||    &&    ==    !=    <     >     +     -     *     /     %     ";
  private static final String SERVICE_SIGNS =
      "!     &     fork  exec  wait  exit  pipe  read  write open  close unlinkkill  on    put   get   grow  pid   pause sync  ";

  private static final String SAMPLE_0 =
      "F ( ) { int a ; while ( a < 3 ) { put ( a ) ; a = a + 1 ; } }";
  private static final String SAMPLE_1 =
      "G ( a ) { int b ; if ( a < 2 ) return 1 ; b = G ( a - 1 ) ; return a * b ; } F ( ) { a = G ( 5 ) ; put ( a ) ; }";
  private static final String SAMPLE_2 =
      "F ( ) { int b ; a = 7 ; b = fork ( ) ; if ( b == 0 ) { a = a + 1 ; put ( a ) ; exit ( 3 ) ; } wait ( & c ) ; put ( a ) ; put ( c ) ; }";
  private static final String SAMPLE_3 =
      "F ( ) { int b ; pipe ( x ) ; b = fork ( ) ; if ( ! b ) { close ( x [ 0 ] ) ; while ( b < 6 ) { write ( x [ 1 ] , b * b ) ; b = b + 1 ; } exit ( 0 ) ; } close ( x [ 1 ] ) ; while ( 1 ) { b = read ( x [ 0 ] , & a ) ; if ( b < 1 ) break ; put ( a ) ; } }";
  private static final String SAMPLE_4 =
      "F ( ) { int b ; b = open ( 3 , 2 ) ; write ( b , 11 ) ; write ( b , 12 ) ; sync ( ) ; close ( b ) ; b = open ( 3 , 3 ) ; write ( b , 13 ) ; unlink ( 4 ) ; b = open ( 3 , 0 ) ; c = read ( b , & a ) ; while ( c ) { put ( a ) ; c = read ( b , & a ) ; } }";
  private static final String SAMPLE_5 =
      "H ( a ) { put ( a + 10 ) ; c = c + 1 ; } F ( ) { on ( 1 , 2 ) ; on ( 2 , 2 ) ; while ( c < 2 ) pause ( ) ; put ( c ) ; }";
  private static final String SAMPLE_6 =
      "F ( ) { int b ; b = grow ( 8 ) ; y [ 8 ] = 9 ; put ( * b ) ; b = b + 7 ; * b = a / 2 ; * ( b + 1 ) = 1 ; }";
  private static final String SAMPLE_7 =
      "G ( a ) { int b ; b = fork ( ) ; if ( a > 1 && b ) b = G ( a - 1 ) ; x [ a ] = a ; return b ; } F ( ) { int a ; a = G ( 3 ) ; while ( 0 < a ) a = wait ( 0 ) ; put ( x [ 1 ] + x [ 2 ] * 10 ) ; exec ( 0 ) ; }";

  // Steps of the machine's code, in groups: those that rest, those on the stack, those on MEMORY, those that jump.
  private static final int REST = 0;
  private static final int SERVE = 1;
  private static final int PUSH = 2;
  private static final int LOCAL = 3;
  private static final int SET_LOCAL = 4;
  private static final int DROP = 5;
  private static final int NEGATE = 6;
  private static final int TRUTH = 7;
  private static final int NOT = 8;
  private static final int EQUALS = 9;
  private static final int DIFFERS = 10;
  private static final int IS_LESS = 11;
  private static final int IS_MORE = 12;
  private static final int ADD = 13;
  private static final int SUBTRACT = 14;
  private static final int MULTIPLY = 15;
  private static final int DIVIDE = 16;
  private static final int REMAINDER = 17;
  private static final int LOAD = 18;
  private static final int CELL = 19;
  private static final int STORE = 20;
  private static final int SET_CELL = 21;
  private static final int JUMP = 22;
  private static final int UNLESS = 23;
  private static final int SKIP_AND = 24;
  private static final int SKIP_OR = 25;
  private static final int CALL = 26;
  private static final int RETURN = 27;

  /** No TOKEN makes more than two steps, so this is enough for the longest TEXT. */
  private static final int MOST_STEPS = 2 * MOST_TOKENS + 80;

  // How a PROCESS goes on; a TRAP k is TRAPS + k, an end by a signal s KILLED + s.
  private static final int GOES = 0;
  private static final int RESTS = 1;
  private static final int SERVES = 2;
  private static final int RETURNS = 3;
  private static final int WAITS = 4;
  private static final int TRAPS = 10;
  private static final int KILLED = 20;

  /** Far above the turns that a loop over a TEXT's symbols or over the steps of one TICK can need. */
  private static final int MOST_TURNS = 1000000;

  private final Kernel kernel;
  /** The one writer of all texts that are told: a new one for each call would fill the room. */
  private final StringBuilder words;
  private int knocks;

  public Pagekernel() {
    kernel = new Kernel();
    words = new StringBuilder();
  }

  // ---- PROGRAMS

  public int type(int program, int a, int b, int c, int d, int e)
      throws IndexOutOfBoundsException, IllegalArgumentException, IllegalStateException {
    Text text = textOf(program);
    int[] typed = {a, b, c, d, e};
    int many = 0;
    for (int i = 0; i < typed.length; i++) {
      if (typed[i] < NONE || typed[i] >= TOKENS) {
        throw new IllegalArgumentException("no such token");
      }
      if (typed[i] != NONE && many == i) {
        many++;
      }
    }
    if (text.many + many > MOST_TOKENS) {
      throw new IllegalStateException("the text is full");
    }
    for (int i = 0; i < many && i < typed.length; i++) {
      text.add(typed[i]);
    }
    return text.many;
  }

  public int drop(int program, int many) throws IndexOutOfBoundsException, IllegalArgumentException {
    Text text = textOf(program);
    if (many < 0 || many > text.many) {
      throw new IllegalArgumentException("not so many tokens");
    }
    text.cut(text.many - many);
    return text.many;
  }

  public int sample(int program, int k) throws IndexOutOfBoundsException, IllegalArgumentException {
    Text text = textOf(program);
    if (k < 0 || k >= SAMPLES) {
      throw new IllegalArgumentException("no such sample");
    }
    text.cut(0);
    text.read(sampleWords(k));
    return text.many;
  }

  public int change(int program, int place, int token) throws IndexOutOfBoundsException, IllegalArgumentException {
    Text text = textOf(program);
    requireIndex(place, text.many);
    if (token < 0 || token >= TOKENS) {
      throw new IllegalArgumentException("no such token");
    }
    int before = text.tokenAt(place);
    text.put(place, token);
    return before;
  }

  public int length(int program) throws IndexOutOfBoundsException {
    return textOf(program).many;
  }

  public int token(int program, int place) throws IndexOutOfBoundsException {
    Text text = textOf(program);
    requireIndex(place, text.many);
    return text.tokenAt(place);
  }

  public String text(int program) throws IndexOutOfBoundsException {
    Text text = textOf(program);
    words.setLength(0);
    for (int i = 0; i < text.many; i++) {
      writeBlank(i > 0);
      writeSign(text.tokenAt(i));
    }
    return words.toString();
  }

  public int error(int program) throws IndexOutOfBoundsException {
    requireIndex(program, PROGRAMS);
    return kernel.checked(program).error;
  }

  public int kind(int program) throws IndexOutOfBoundsException {
    requireIndex(program, PROGRAMS);
    return kernel.checked(program).kind;
  }

  public int isLocal(int program, int function, int name) throws IndexOutOfBoundsException {
    requireIndex(program, PROGRAMS);
    requireIndex(function, FUNCTIONS);
    requireIndex(name, NAMES);
    return kernel.locality(program, function, name);
  }

  // ---- PROCESSES

  public int start(int program) throws IndexOutOfBoundsException, IllegalStateException {
    requireIndex(program, PROGRAMS);
    if (!kernel.hasRoom()) {
      throw new IllegalStateException("no process can begin");
    }
    return kernel.begin(program);
  }

  public int run(int ticks) throws IllegalArgumentException {
    if (ticks < 1 || ticks > 200) {
      throw new IllegalArgumentException("ticks are 1 to 200");
    }
    int had = 0;
    for (int i = 0; i < ticks; i++) {
      if (kernel.tick() == NONE) {
        break;
      }
      had++;
    }
    return had;
  }

  public int step() {
    return kernel.tick();
  }

  public int quantum(int quantum) throws IllegalArgumentException {
    if (quantum < 1 || quantum > 10) {
      throw new IllegalArgumentException("the quantum is 1 to 10");
    }
    int before = kernel.quantum;
    kernel.quantum = quantum;
    return before;
  }

  public int send(int pid, int signal) throws IllegalArgumentException {
    if (signal < 1 || signal > 3) {
      throw new IllegalArgumentException("signals are 1 to 3");
    }
    return kernel.signal(pid, signal) ? 1 : 0;
  }

  public int state(int pid) {
    Process process = kernel.processOf(pid);
    return process == null ? 0 : process.state;
  }

  public int ofProcess(int pid, int what) throws IndexOutOfBoundsException, IllegalArgumentException {
    Process process = given(pid);
    requireWhat(what, 11);
    return process.told(what);
  }

  public boolean can(int pid) throws IndexOutOfBoundsException {
    return kernel.canGoOn(given(pid));
  }

  public int where(int pid) throws IndexOutOfBoundsException {
    Process process = given(pid);
    return process.isLive() ? process.cpu.place : NONE;
  }

  public String cell(int pid, int address) throws IndexOutOfBoundsException {
    Process process = given(pid);
    words.setLength(0);
    writeCell(process, address);
    return words.toString();
  }

  public String local(int pid, int frame, int name) throws IndexOutOfBoundsException {
    Process process = given(pid);
    requireIndex(name, NAMES);
    words.setLength(0);
    writeLocal(process, frame, name);
    return words.toString();
  }

  public int function(int pid, int frame) throws IndexOutOfBoundsException {
    Process process = given(pid);
    return process.isLive() ? process.cpu.functionOf(frame) : NONE;
  }

  public String descriptor(int pid, int descriptor) throws IndexOutOfBoundsException {
    Process process = given(pid);
    requireIndex(descriptor, DESCRIPTORS);
    words.setLength(0);
    writeDescriptor(process, descriptor);
    return words.toString();
  }

  public String children(int pid) throws IndexOutOfBoundsException {
    given(pid);
    words.setLength(0);
    for (int i = 1; i <= kernel.pids; i++) {
      Process child = kernel.processOf(i);
      if (child != null && child.parent == pid && child.state != GONE) {
        writeBlank(words.length() > 0);
        words.append(i);
      }
    }
    return words.toString();
  }

  public int waitsIn(int pid) throws IndexOutOfBoundsException {
    Process process = given(pid);
    return process.state == WAITING ? process.cpu.service : NONE;
  }

  public int handler(int pid, int signal) throws IndexOutOfBoundsException, IllegalArgumentException {
    Process process = given(pid);
    if (signal < 1 || signal > 2) {
      throw new IllegalArgumentException("handlers are for 1 and 2");
    }
    return process.isLive() ? process.handlerOf(signal) : NONE;
  }

  public int turn(int what) throws IllegalArgumentException {
    requireWhat(what, 2);
    return turnOf(what);
  }

  // ---- what is told and asked outside

  public int give(int value) throws IllegalStateException {
    if (kernel.talk.inputs >= MOST_INPUTS) {
      throw new IllegalStateException("there are ten inputs");
    }
    kernel.talk.take(value);
    return kernel.talk.inputs;
  }

  public String inputs() {
    words.setLength(0);
    for (int i = 0; i < kernel.talk.inputs; i++) {
      writeBlank(i > 0);
      words.append(kernel.talk.input(i));
    }
    return words.toString();
  }

  public String out(int from) throws IllegalArgumentException {
    if (from < 0) {
      throw new IllegalArgumentException("outs begin with 0");
    }
    words.setLength(0);
    writeOuts(from);
    return words.toString();
  }

  public int ofPipe(int pipe, int what) throws IndexOutOfBoundsException, IllegalArgumentException {
    requireIndex(pipe, PIPES);
    requireWhat(what, 2);
    return kernel.openings.pipeTold(pipe, what);
  }

  public String inPipe(int pipe) throws IndexOutOfBoundsException {
    requireIndex(pipe, PIPES);
    words.setLength(0);
    writePipe(pipe);
    return words.toString();
  }

  // ---- FILES

  public int store(int name, int value) throws IndexOutOfBoundsException {
    requireIndex(name, NAMES);
    return kernel.files.append(name, value);
  }

  public int remove(int name) throws IndexOutOfBoundsException {
    requireIndex(name, NAMES);
    return kernel.files.unlink(name) ? 1 : 0;
  }

  public int size(int name) throws IndexOutOfBoundsException {
    requireIndex(name, NAMES);
    Shelf now = kernel.files.now;
    int body = now.bodyOf(name);
    return body == NONE ? NONE : now.lengthOf(body);
  }

  public String inFile(int name) throws IndexOutOfBoundsException {
    requireIndex(name, NAMES);
    Shelf now = kernel.files.now;
    int body = now.bodyOf(name);
    words.setLength(0);
    if (body == NONE) {
      words.append('-');
    } else {
      writeBody(now, body, ' ');
    }
    return words.toString();
  }

  public int sync() {
    return kernel.files.syncAll();
  }

  public int crash(int n, boolean isTorn) throws IllegalArgumentException {
    requirePending(n);
    kernel.endAll();
    kernel.files.restartBehind(n, isTorn);
    return kernel.files.now.names();
  }

  public int halted(int k) throws IllegalArgumentException {
    if (k < 0 || k > 99) {
      throw new IllegalArgumentException("blocks are 0 to 99");
    }
    kernel.endAll();
    kernel.files.restartWithin(k);
    return kernel.files.now.names();
  }

  public String would(int n) throws IllegalArgumentException {
    requirePending(n);
    words.setLength(0);
    writeFiles(n);
    return words.toString();
  }

  // ---- inner things

  public int frames(int frames) throws IllegalArgumentException {
    if (frames < 8 || frames > 40) {
      throw new IllegalArgumentException("frames are 8 to 40");
    }
    int before = kernel.memory.many;
    kernel.memory.resize(frames);
    return before;
  }

  public int level(int level) throws IllegalArgumentException {
    if (level < 0 || level > 2) {
      throw new IllegalArgumentException("levels are 0 to 2");
    }
    int before = kernel.level;
    kernel.level = level;
    return before;
  }

  public int press(int pid) {
    Process process = kernel.processOf(pid);
    if (process == null || !process.isLive()) {
      return 0;
    }
    kernel.memory.pressOut(process.slot);
    return 1;
  }

  // ---- the house

  public int house(int what) throws IllegalArgumentException {
    requireWhat(what, 13);
    return houseOf(what);
  }

  public int knock() {
    knocks++;
    return knocks;
  }

  public boolean isSound() {
    return kernel.isWhole();
  }

  public long digest() {
    long d = 7605;
    for (int what = 0; what <= 13; what++) {
      d = mix(d, houseOf(what));
    }
    for (int what = 0; what <= 2; what++) {
      d = mix(d, turnOf(what));
    }
    for (int program = 0; program < PROGRAMS; program++) {
      d = mix(d, kernel.checked(program).error);
      d = mix(d, kernel.checked(program).kind);
    }
    for (int pid = 1; pid <= kernel.pids; pid++) {
      d = mixProcess(d, kernel.processOf(pid));
    }
    words.setLength(0);
    for (int pipe = 0; pipe < PIPES; pipe++) {
      writePipe(pipe);
    }
    writeFiles(0);
    writeFiles(kernel.files.pending);
    writeOuts(kernel.talk.outs > OUTS_TOLD ? kernel.talk.outs - OUTS_TOLD : 0);
    d = mixWords(d);
    return mix(d, kernel.isWhole() ? 1 : 0);
  }

  // ---- what the face itself needs

  private static void requireIndex(int index, int many) {
    if (index < 0 || index >= many) {
      throw new IndexOutOfBoundsException("there is no such one");
    }
  }

  private static void requireWhat(int what, int most) {
    if (what < 0 || what > most) {
      throw new IllegalArgumentException("nothing is told for this");
    }
  }

  private void requirePending(int n) {
    if (n < 0 || n > kernel.files.pending) {
      throw new IllegalArgumentException("not so many acts are pending");
    }
  }

  private Text textOf(int program) {
    if (program < 0 || program >= PROGRAMS) {
      throw new IndexOutOfBoundsException("there is no such program");
    }
    return kernel.texts[program];
  }

  private Process given(int pid) {
    Process process = kernel.processOf(pid);
    if (process == null) {
      throw new IndexOutOfBoundsException("that pid was never given");
    }
    return process;
  }

  private int turnOf(int what) {
    if (what == 0) {
      return kernel.turn;
    }
    if (what == 1) {
      return kernel.turn == NONE ? 0 : kernel.used;
    }
    Process next = kernel.nextProcess();
    return next == null ? NONE : next.pid;
  }

  private int houseOf(int what) {
    switch (what) {
      case 0: return kernel.housed();
      case 1: return kernel.able();
      case 2: return kernel.openings.pipes();
      case 3: return kernel.files.now.names();
      case 4: return kernel.files.bodies();
      case 5: return kernel.files.pending;
      case 6: return kernel.ticks;
      case 7: return kernel.quantum;
      case 8: return kernel.pids;
      case 9: return kernel.talk.inputs;
      case 10: return kernel.talk.outs;
      case 11: return kernel.crashes;
      case 12: return knocks;
      default: return kernel.openings.openings();
    }
  }

  private static long mix(long d, int value) {
    return d * 31 + value;
  }

  private long mixWords(long d) {
    long mixed = d;
    for (int i = 0; i < words.length(); i++) {
      mixed = mixed * 31 + words.charAt(i);
    }
    return mixed;
  }

  private long mixProcess(long d, Process process) {
    if (process == null) {
      return d;
    }
    long mixed = mix(d, process.state);
    for (int what = 0; what <= 11; what++) {
      mixed = mix(mixed, process.told(what));
    }
    mixed = mix(mixed, process.isLive() ? process.cpu.place : NONE);
    if (!process.isLive()) {
      return mixed;
    }
    words.setLength(0);
    for (int address = FIRST_CELL; address < MOST_BREAK; address++) {
      writeCell(process, address);
    }
    mixed = mixWords(mixed);
    for (int frame = 0; frame < process.cpu.frames; frame++) {
      mixed = mix(mixed, process.cpu.functionOf(frame));
      words.setLength(0);
      for (int name = 0; name < NAMES; name++) {
        writeLocal(process, frame, name);
      }
      mixed = mixWords(mixed);
    }
    words.setLength(0);
    for (int descriptor = 0; descriptor < DESCRIPTORS; descriptor++) {
      writeDescriptor(process, descriptor);
    }
    return mixWords(mixed);
  }

  private void writeBlank(boolean isWanted) {
    if (isWanted) {
      words.append(' ');
    }
  }

  private void writeSign(int token) {
    for (int i = 0; i < SIGN && signAt(token, i) != ' '; i++) {
      words.append(signAt(token, i));
    }
  }

  private void writeCell(Process process, int address) {
    if (process.isOwn(address)) {
      words.append(kernel.memory.peek(process.slot, address));
    } else {
      words.append('-');
    }
  }

  private void writeLocal(Process process, int frame, int name) {
    if (process.isLive() && process.code.isLocalIn(process.cpu.functionOf(frame), name)) {
      words.append(process.cpu.localAt(frame, name));
    } else {
      words.append('-');
    }
  }

  private void writeDescriptor(Process process, int descriptor) {
    int opening = process.isLive() ? process.opened(descriptor) : NONE;
    Openings openings = kernel.openings;
    if (opening == NONE) {
      words.append('-');
    } else if (openings.isFile(opening)) {
      int name = kernel.files.now.nameOf(openings.targetOf(opening));
      words.append('f');
      if (name == NONE) {
        words.append('-');
      } else {
        words.append(name);
      }
      words.append('@').append(openings.positionOf(opening)).append(':').append(openings.modeOf(opening));
    } else {
      words.append(openings.isReading(opening) ? 'r' : 'w').append(openings.targetOf(opening));
    }
  }

  private void writePipe(int pipe) {
    int many = kernel.openings.pipeTold(pipe, 0);
    if (many == NONE) {
      words.append('-');
    }
    for (int i = 0; i < many; i++) {
      writeBlank(i > 0);
      words.append(kernel.openings.heldAt(pipe, i));
    }
  }

  private void writeOuts(int from) {
    Talk talk = kernel.talk;
    int told = 0;
    for (int i = from; i < talk.outs && told < OUTS_TOLD; i++) {
      writeBlank(told > 0);
      words.append(talk.outPid(i)).append(':').append(talk.outValue(i));
      told++;
    }
  }

  private void writeBody(Shelf shelf, int body, char between) {
    for (int i = 0; i < shelf.lengthOf(body); i++) {
      if (i > 0) {
        words.append(between);
      }
      words.append(shelf.cellAt(body, i));
    }
  }

  private void writeFiles(int n) {
    Shelf shelf = kernel.files.shelfBehind(n);
    for (int name = 0; name < NAMES; name++) {
      int body = shelf.bodyOf(name);
      if (body != NONE) {
        words.append(name).append('=');
        writeBody(shelf, body, ',');
        words.append(';');
      }
    }
  }

  private static char signAt(int token, int i) {
    int place = token % 20 * SIGN + i;
    switch (token / 20) {
      case 0: return placeIn(NUMBER_SIGNS, place);
      case 1: return placeIn(NAME_SIGNS, place);
      case 2: return placeIn(MARK_SIGNS, place);
      default: return placeIn(SERVICE_SIGNS, place);
    }
  }

  private static char placeIn(String signs, int place) {
    return place >= 0 && place < signs.length() ? signs.charAt(place) : ' ';
  }

  private static String sampleWords(int k) {
    switch (k) {
      case 0: return SAMPLE_0;
      case 1: return SAMPLE_1;
      case 2: return SAMPLE_2;
      case 3: return SAMPLE_3;
      case 4: return SAMPLE_4;
      case 5: return SAMPLE_5;
      case 6: return SAMPLE_6;
      default: return SAMPLE_7;
    }
  }

  private static boolean isIn(int token, int first, int behind) {
    return token >= first && token < behind;
  }

  private static boolean isCalled(int token) {
    return token >= FUNCTION && token < INT || token >= SERVICE;
  }

  /** What stands in a row, or 0 where there is no such place: no index reaches a row untested. */
  private static int at(int[] row, int index) {
    return index >= 0 && index < row.length ? row[index] : 0;
  }

  private static void set(int[] row, int index, int value) {
    if (index >= 0 && index < row.length) {
      row[index] = value;
    }
  }

  // ---- the classes inside

  /** The TEXT of a PROGRAM, with what its last check told. */
  private static final class Text {
    final int[] tokens = new int[MOST_TOKENS];
    int many;
    boolean isChecked;
    int error;
    int kind;
    final int[] locals = new int[FUNCTIONS];
    boolean isWeighed;
    boolean isLighter;

    /** The TOKEN in a place, NONE behind the last one. */
    int tokenAt(int place) {
      return place >= 0 && place < many && place < tokens.length ? tokens[place] : NONE;
    }

    void add(int token) {
      if (many >= 0 && many < tokens.length) {
        tokens[many] = token;
        many++;
        isChecked = false;
      }
    }

    void cut(int left) {
      many = left;
      isChecked = false;
    }

    void put(int place, int token) {
      set(tokens, place, token);
      isChecked = false;
    }

    /** Adds the TOKENS of words that are written with a blank between two. */
    void read(String sentence) {
      int from = 0;
      for (int i = 0; i <= sentence.length(); i++) {
        if (i == sentence.length() || sentence.charAt(i) == ' ') {
          add(tokenOf(sentence, from, i));
          from = i + 1;
        }
      }
    }

    private static int tokenOf(String sentence, int from, int to) {
      for (int token = 0; token < TOKENS; token++) {
        boolean isSame = true;
        for (int i = 0; i < SIGN && isSame; i++) {
          isSame = signAt(token, i) == (from + i < to ? sentence.charAt(from + i) : ' ');
        }
        if (isSame) {
          return token;
        }
      }
      return NONE;
    }

    boolean isDefined(int function) {
      return at(locals, function) != NONE;
    }
  }

  /** Code of the machine: steps with an operand each, and where each FUNCTION begins. */
  private static final class Code {
    final int[] steps = new int[MOST_STEPS];
    final int[] operands = new int[MOST_STEPS];
    int many;
    /** NONE for a FUNCTION that is not defined. */
    final int[] entries = new int[FUNCTIONS];
    final int[] parameters = new int[FUNCTIONS];
    /** The NAMES of the parameters, the first one lowest, three bits each. */
    final int[] orders = new int[FUNCTIONS];
    /** A bit for each NAME that is LOCAL. */
    final int[] locals = new int[FUNCTIONS];
    /** While it is shortened: where an old step went, and whether anything jumps there. */
    final int[] moved = new int[MOST_STEPS];
    final int[] isTarget = new int[MOST_STEPS];
    int barrier;

    void empty() {
      many = 0;
      Arrays.fill(entries, NONE);
      Arrays.fill(parameters, NONE);
      Arrays.fill(orders, 0);
      Arrays.fill(locals, NONE);
    }

    void copyOf(Code other) {
      System.arraycopy(other.steps, 0, steps, 0, steps.length);
      System.arraycopy(other.operands, 0, operands, 0, operands.length);
      System.arraycopy(other.entries, 0, entries, 0, entries.length);
      System.arraycopy(other.parameters, 0, parameters, 0, parameters.length);
      System.arraycopy(other.orders, 0, orders, 0, orders.length);
      System.arraycopy(other.locals, 0, locals, 0, locals.length);
    }

    /** Adds a step; its place. */
    int add(int step, int operand) {
      if (many < 0 || many >= MOST_STEPS) {
        return NONE;
      }
      steps[many] = step;
      operands[many] = operand;
      many++;
      return many - 1;
    }

    /** Lets a jump lead behind all that stands here. */
    void patch(int jump) {
      if (jump >= 0 && jump < MOST_STEPS) {
        operands[jump] = many;
      }
    }

    boolean isDefined(int function) {
      return function >= 0 && function < FUNCTIONS && entries[function] != NONE;
    }

    boolean isLocalIn(int function, int name) {
      return isDefined(function) && (at(locals, function) >> name & 1) == 1;
    }

    /** Says the same with fewer steps: constants are reckoned from LEVEL 1 on, the rest is LEVEL 2. */
    void shorten(int level) {
      if (level <= 0) {
        return;
      }
      markTargets();
      int old = many < MOST_STEPS ? many : MOST_STEPS;
      boolean isDead = false;
      many = 0;
      barrier = 0;
      for (int i = 0; i < old; i++) {
        if (isTarget[i] != 0) {
          barrier = many;
          isDead = false;
        }
        moved[i] = many;
        int step = steps[i];
        int operand = operands[i];
        if (isDead && level > 1) {
          continue;
        }
        if (!isFolded(step) && (level < 2 || !isFused(step, operand))) {
          add(step, operand);
        }
        isDead = many > barrier && (at(steps, many - 1) == JUMP || at(steps, many - 1) == RETURN);
      }
      moveTargets();
    }

    private void markTargets() {
      Arrays.fill(isTarget, 0);
      for (int i = 0; i < FUNCTIONS; i++) {
        set(isTarget, entries[i], 1);
      }
      for (int i = 0; i < many && i < MOST_STEPS; i++) {
        if (isJump(steps[i])) {
          set(isTarget, operands[i], 1);
        }
      }
    }

    private void moveTargets() {
      for (int i = 0; i < FUNCTIONS; i++) {
        if (entries[i] != NONE) {
          entries[i] = at(moved, entries[i]);
        }
      }
      for (int i = 0; i < many && i < MOST_STEPS; i++) {
        if (isJump(steps[i])) {
          operands[i] = at(moved, operands[i]);
        }
      }
    }

    private static boolean isJump(int step) {
      return isIn(step, JUMP, CALL);
    }

    /** Whether the last step but so many pushes a constant, and nothing jumps between it and here. */
    private boolean isConstant(int back) {
      return many - back >= barrier && at(steps, many - back) == PUSH;
    }

    /** Whether a step was reckoned at once with the constants that stand ahead of it. */
    private boolean isFolded(int step) {
      if (!isIn(step, NEGATE, LOAD) || !isConstant(1)) {
        return false;
      }
      int last = at(operands, many - 1);
      if (step < EQUALS) {
        set(operands, many - 1, ofOne(step, last));
        return true;
      }
      if (!isConstant(2) || last == 0 && (step == DIVIDE || step == REMAINDER)) {
        return false;
      }
      set(operands, many - 2, ofTwo(step, at(operands, many - 2), last));
      many--;
      return true;
    }

    /** Whether a step became one with the step ahead of it, or needs none. */
    private boolean isFused(int step, int operand) {
      if (step == TRUTH && many > barrier && isIn(at(steps, many - 1), TRUTH, ADD)) {
        return true;
      }
      if (!isConstant(1)) {
        return false;
      }
      int last = at(operands, many - 1);
      if (step == LOAD && isIn(last, FIRST_CELL, HEAP)) {
        set(steps, many - 1, CELL);
        return true;
      }
      if (step == UNLESS || step == SKIP_AND && last != 0 || step == SKIP_OR && last == 0) {
        many--;
        if (last == 0 && step == UNLESS) {
          add(JUMP, operand);
        }
        return true;
      }
      return false;
    }

    static int ofOne(int step, int value) {
      if (step == NEGATE) {
        return -value;
      }
      return (value == 0) == (step == NOT) ? 1 : 0;
    }

    /** What is reckoned of two; who asks has looked at the divisor. */
    static int ofTwo(int step, int left, int right) {
      switch (step) {
        case EQUALS: return left == right ? 1 : 0;
        case DIFFERS: return left != right ? 1 : 0;
        case IS_LESS: return left < right ? 1 : 0;
        case IS_MORE: return left > right ? 1 : 0;
        case ADD: return left + right;
        case SUBTRACT: return left - right;
        case MULTIPLY: return left * right;
        case DIVIDE: return right == 0 ? 0 : left / right;
        default: return right == 0 ? 0 : left % right;
      }
    }
  }

  /**
   * Reads a TEXT and writes its code. The form is held as a stack of symbols that are still due: TOKENS, parts of the
   * form, and actions. So no TEXT nests too deep, and the first TOKEN that fits nothing is the ERROR of KIND 1.
   */
  private static final class Translator {
    // parts of the form
    private static final int DEFINITIONS = 100;
    private static final int DEFINITION = 101;
    private static final int PARAMETERS = 102;
    private static final int MORE_PARAMETERS = 103;
    private static final int TOLD = 104;
    private static final int STATEMENTS = 105;
    private static final int STATEMENT = 106;
    private static final int SIMPLE = 107;
    private static final int ELSE_PART = 108;
    private static final int RETURNED = 109;
    private static final int ASSIGNED = 110;
    private static final int CALL_PART = 111;
    private static final int ARGUMENTS = 112;
    private static final int MORE_ARGUMENTS = 113;
    private static final int EXPRESSION = 114;
    private static final int TAIL = 115;
    private static final int UNARY = 116;
    private static final int ADDRESSED = 117;
    private static final int ROW_PART = 118;
    private static final int IN_ROW = 119;
    // actions
    private static final int ACTIONS = 130;
    private static final int END_FUNCTION = 130;
    private static final int BRANCH = 131;
    private static final int TEST_LOOP = 132;
    private static final int END_LOOP = 133;
    private static final int PATCH = 134;
    private static final int WRITE_STEP = 135;
    private static final int JUMP_BACK = 136;
    private static final int SET_NAME = 137;
    private static final int CALLED = 138;
    private static final int LOGIC = 139;

    /** A TOKEN leaves fewer than ten symbols due. */
    private static final int MOST_SYMBOLS = 2000;

    private final int[] symbols = new int[MOST_SYMBOLS];
    private final int[] values = new int[MOST_SYMBOLS];
    private int due;
    private Text text;
    private Code code;
    private int place;
    private boolean isFormed;
    int error;
    int kind;
    private int function;
    private int toldNames;
    private int locals;
    private int loops;
    /** The last "break" of this "while": each one's operand leads to the one before, till the end is known. */
    private int breaks;
    private int arguments;

    /** Writes the code of a TEXT; error and kind tell whether it has any meaning. */
    void translate(Text from, Code to) {
      text = from;
      code = to;
      code.empty();
      countParameters();
      place = 0;
      isFormed = true;
      error = NONE;
      kind = 0;
      loops = 0;
      breaks = NONE;
      due = 0;
      push(DEFINITIONS, 0);
      push(DEFINITION, 0);
      for (int i = 0; i < MOST_TURNS && due > 0 && isFormed; i++) {
        due--;
        int symbol = at(symbols, due);
        int value = at(values, due);
        if (symbol < TOKENS) {
          match(symbol);
        } else if (symbol == DEFINITION) {
          define(text.tokenAt(place));
        } else if (symbol >= ACTIONS) {
          act(symbol, value);
        } else if (symbol < EXPRESSION) {
          expand(symbol, value);
        } else {
          reckon(symbol, value);
        }
      }
      if (isFormed && kind == 0 && at(code.parameters, 0) != 0) {
        report(8, text.many);
      }
    }

    /** A CALL may stand ahead of the DEFINITION that it means. */
    private void countParameters() {
      int depth = 0;
      int defined = NONE;
      for (int i = 0; i < text.many; i++) {
        int token = text.tokenAt(i);
        if (token == OPEN_BLOCK) {
          depth++;
        } else if (token == CLOSE_BLOCK) {
          depth--;
        } else if (depth == 0 && isIn(token, FUNCTION, INT)) {
          defined = at(code.parameters, token - FUNCTION) == NONE ? token - FUNCTION : NONE;
          set(code.parameters, defined, 0);
        } else if (depth == 0 && isIn(token, NAME, ROW)) {
          set(code.parameters, defined, at(code.parameters, defined) + 1);
        }
      }
    }

    /** The NAMES that are LOCAL in the DEFINITION that begins in a place. */
    private int localsFrom(int from) {
      int depth = 0;
      int found = 0;
      for (int i = from + 1; i < text.many; i++) {
        int token = text.tokenAt(i);
        if (token == OPEN_BLOCK) {
          depth++;
        } else if (token == CLOSE_BLOCK) {
          depth--;
        } else if (depth == 0 && isIn(token, FUNCTION, INT)) {
          break;
        } else if (isIn(token, NAME, ROW) && (depth == 0 || text.tokenAt(i - 1) == INT)) {
          found |= 1 << token - NAME;
        }
      }
      return found;
    }

    private void push(int symbol, int value) {
      if (due >= 0 && due < MOST_SYMBOLS) {
        symbols[due] = symbol;
        values[due] = value;
        due++;
      }
    }

    private void match(int token) {
      if (text.tokenAt(place) == token) {
        place++;
      } else {
        misformed();
      }
    }

    private void misformed() {
      isFormed = false;
      kind = 1;
      error = place;
    }

    private void report(int what, int where) {
      if (kind == 0 || where < error) {
        kind = what;
        error = where;
      }
    }

    /** Parts of the form that are no E. */
    private void expand(int symbol, int value) {
      int token = text.tokenAt(place);
      switch (symbol) {
        case DEFINITIONS:
          if (token != NONE) {
            push(DEFINITIONS, 0);
            push(DEFINITION, 0);
          }
          break;
        case PARAMETERS:
          if (token != CLOSE) {
            push(MORE_PARAMETERS, 0);
            push(TOLD, 1);
          }
          break;
        case MORE_PARAMETERS:
          if (token == COMMA) {
            place++;
            push(MORE_PARAMETERS, 0);
            push(TOLD, 1);
          }
          break;
        case TOLD: tell(token, value == 1); break;
        case STATEMENTS:
          if (token == CLOSE_BLOCK) {
            place++;
          } else {
            push(STATEMENTS, 0);
            push(STATEMENT, 0);
          }
          break;
        case STATEMENT: beginStatement(token); break;
        case SIMPLE: beginSimple(token); break;
        case ELSE_PART: orElse(token, value); break;
        case RETURNED: giveBack(token); break;
        case ASSIGNED: assign(token, value); break;
        case CALL_PART:
          push(CALLED, value);
          push(CLOSE, 0);
          push(ARGUMENTS, 0);
          push(OPEN, 0);
          break;
        case ARGUMENTS: argue(token != CLOSE, 1); break;
        default: argue(token == COMMA, arguments + 1); break;
      }
    }

    private void define(int token) {
      if (!isIn(token, FUNCTION, INT)) {
        misformed();
        return;
      }
      function = token - FUNCTION;
      if (code.isDefined(function)) {
        report(6, place);
      }
      locals = localsFrom(place);
      toldNames = 0;
      set(code.entries, function, code.many);
      set(code.locals, function, locals);
      set(code.orders, function, 0);
      place++;
      push(END_FUNCTION, 0);
      push(STATEMENTS, 0);
      push(OPEN_BLOCK, 0);
      push(CLOSE, 0);
      push(PARAMETERS, 0);
      push(OPEN, 0);
    }

    private void tell(int token, boolean isParameter) {
      if (!isIn(token, NAME, ROW)) {
        misformed();
        return;
      }
      int bit = 1 << token - NAME;
      if ((toldNames & bit) != 0) {
        report(7, place);
      } else if (isParameter) {
        int before = Integer.bitCount(toldNames);
        set(code.orders, function, at(code.orders, function) | token - NAME << 3 * before);
      }
      toldNames |= bit;
      place++;
    }

    private void beginStatement(int token) {
      if (token == OPEN_BLOCK) {
        place++;
        push(STATEMENTS, 0);
        return;
      }
      if (token == INT) {
        place++;
        push(SEMICOLON, 0);
        push(TOLD, 0);
        return;
      }
      int rest = code.add(REST, place);
      if (token == IF || token == WHILE) {
        place++;
        push(token == IF ? BRANCH : TEST_LOOP, rest);
        push(CLOSE, 0);
        push(EXPRESSION, 0);
        push(OPEN, 0);
        return;
      }
      push(SEMICOLON, 0);
      if (token != SEMICOLON) {
        push(SIMPLE, 0);
      }
    }

    /** A STATEMENT that ends with ";". */
    private void beginSimple(int token) {
      if (token == BREAK) {
        if (loops == 0) {
          report(5, place);
        }
        breaks = code.add(JUMP, breaks);
      } else if (token == GIVE_BACK) {
        push(RETURNED, 0);
      } else if (isCalled(token)) {
        push(WRITE_STEP, DROP);
        push(CALL_PART, place);
      } else if (isIn(token, NAME, ROW)) {
        push(ASSIGNED, token - NAME);
        push(ASSIGN, 0);
      } else if (token == STAR || isIn(token, ROW, FUNCTION)) {
        push(WRITE_STEP, STORE);
        push(EXPRESSION, 0);
        push(ASSIGN, 0);
        push(token == STAR ? UNARY : IN_ROW, token);
      } else {
        misformed();
        return;
      }
      place++;
    }

    /** The ADDRESS in a ROW, from its "[" on. */
    private void placeInRow(int token) {
      code.add(PUSH, FIRST_ROW_CELL + (token - ROW) * PAGE);
      push(WRITE_STEP, ADD);
      push(CLOSE_PLACE, 0);
      push(EXPRESSION, 0);
      push(OPEN_PLACE, 0);
    }

    private void orElse(int token, int jump) {
      if (token == ELSE) {
        place++;
        push(PATCH, code.add(JUMP, NONE));
        push(STATEMENT, 0);
      }
      code.patch(jump);
    }

    private void giveBack(int token) {
      push(WRITE_STEP, RETURN);
      if (token == SEMICOLON) {
        code.add(PUSH, 0);
      } else {
        push(EXPRESSION, 0);
      }
    }

    private void assign(int token, int name) {
      push(SET_NAME, name);
      if (isCalled(token)) {
        push(CALL_PART, place);
        place++;
      } else {
        push(EXPRESSION, 0);
      }
    }

    private void argue(boolean isOneMore, int many) {
      if (isOneMore) {
        if (many > 1) {
          place++;
        }
        arguments = many;
        push(MORE_ARGUMENTS, 0);
        push(EXPRESSION, 0);
      } else if (many == 1) {
        arguments = 0;
      }
    }

    /** Parts of an E: what is left of a sign is written ahead of what is right. */
    private void reckon(int symbol, int value) {
      int token = text.tokenAt(place);
      switch (symbol) {
        case EXPRESSION: expectFrom(0); break;
        case TAIL:
          if (isIn(token, OR, BANG) && at(LEVELS, token - OR) == value) {
            place++;
            push(TAIL, value);
            if (token < EQUAL) {
              push(LOGIC, code.add(token == OR ? SKIP_OR : SKIP_AND, NONE));
            } else {
              push(WRITE_STEP, token - EQUAL + EQUALS);
            }
            expectFrom(value + 1);
          }
          break;
        case UNARY: begin(token); break;
        case ADDRESSED:
          if (!isIn(token, NAME, ROW)) {
            misformed();
            break;
          }
          if (isLocalName(token)) {
            report(4, place);
          }
          code.add(PUSH, FIRST_CELL + token - NAME);
          place++;
          break;
        case IN_ROW: placeInRow(value); break;
        default:
          if (token == OPEN_PLACE) {
            push(WRITE_STEP, LOAD);
            placeInRow(value);
          } else {
            code.add(PUSH, FIRST_ROW_CELL + (value - ROW) * PAGE);
          }
          break;
      }
    }

    private void expectFrom(int level) {
      for (int i = level; i <= STRONGEST; i++) {
        push(TAIL, i);
      }
      push(UNARY, 0);
    }

    private boolean isLocalName(int token) {
      return (locals >> token - NAME & 1) == 1;
    }

    private void begin(int token) {
      if (isIn(token, 0, NAME)) {
        code.add(PUSH, token);
      } else if (isIn(token, NAME, ROW)) {
        if (isLocalName(token)) {
          code.add(LOCAL, token - NAME);
        } else {
          code.add(PUSH, FIRST_CELL + token - NAME);
          code.add(LOAD, 0);
        }
      } else if (isIn(token, ROW, FUNCTION)) {
        push(ROW_PART, token);
      } else if (token == MINUS || token == BANG || token == STAR) {
        push(WRITE_STEP, token == MINUS ? NEGATE : token == BANG ? NOT : LOAD);
        push(UNARY, 0);
      } else if (token == AMPERSAND) {
        push(ADDRESSED, 0);
      } else if (token == OPEN) {
        push(CLOSE, 0);
        push(EXPRESSION, 0);
      } else {
        misformed();
        return;
      }
      place++;
    }

    private void act(int symbol, int value) {
      switch (symbol) {
        case END_FUNCTION:
          code.add(PUSH, 0);
          code.add(RETURN, 0);
          break;
        case BRANCH:
          push(ELSE_PART, code.add(UNLESS, NONE));
          push(STATEMENT, 0);
          break;
        case TEST_LOOP:
          push(END_LOOP, breaks);
          push(PATCH, code.add(UNLESS, NONE));
          push(JUMP_BACK, value);
          push(STATEMENT, 0);
          breaks = NONE;
          loops++;
          break;
        case END_LOOP: leaveLoop(value); break;
        case PATCH: code.patch(value); break;
        case WRITE_STEP: code.add(value, 0); break;
        case JUMP_BACK: code.add(JUMP, value); break;
        case SET_NAME:
          if ((locals >> value & 1) == 1) {
            code.add(SET_LOCAL, value);
          } else {
            code.add(SET_CELL, FIRST_CELL + value);
          }
          break;
        case CALLED: finishCall(value); break;
        default:
          code.add(TRUTH, 0);
          code.patch(value);
          break;
      }
    }

    private void leaveLoop(int outer) {
      for (int i = 0; i < MOST_STEPS && breaks != NONE; i++) {
        int before = at(code.operands, breaks);
        code.patch(breaks);
        breaks = before;
      }
      breaks = outer;
      loops--;
    }

    private void finishCall(int first) {
      int token = text.tokenAt(first);
      boolean isService = token >= SERVICE;
      int takes = isService ? at(TAKES, token - SERVICE) : at(code.parameters, token - FUNCTION);
      if (takes == NONE) {
        report(2, first);
      } else if (takes != arguments) {
        report(3, first);
      }
      code.add(isService ? SERVE : CALL, isService ? token : token - FUNCTION);
    }
  }

  /** The machine's own pages, the disk to which they go out, and where each page of a SLOT is. */
  private static final class Memory {
    private static final int MOST_PAGES = 40;
    private static final int ENTRIES = SLOTS * TABLE;

    private final int[] cells = new int[MOST_PAGES * PAGE];
    private final int[] uses = new int[MOST_PAGES];
    /** Pages that were touched since the hand went over them stay one round longer. */
    private final int[] isTouched = new int[MOST_PAGES];
    private final int[] disk = new int[ENTRIES * PAGE];
    private final int[] diskUses = new int[ENTRIES];
    /** By SLOTS, a page each: 0 was never touched, k is the page k - 1 of the machine, -k the page k - 1 of the disk. */
    private final int[] table = new int[ENTRIES];
    private final int[] mayStore = new int[ENTRIES];
    // What isCounted and isKept find, to be compared.
    private final int[] users = new int[MOST_PAGES];
    private final int[] diskUsers = new int[ENTRIES];
    private final int[] kept = new int[MOST_BREAK];
    int many = 12;
    private int hand;

    int load(int slot, int address) {
      int page = pageOf(slot, address, false);
      return page == NONE ? 0 : at(cells, page * PAGE + address % PAGE);
    }

    void put(int slot, int address, int value) {
      int page = pageOf(slot, address, true);
      if (page != NONE) {
        set(cells, page * PAGE + address % PAGE, value);
      }
    }

    /** What a cell has, without a touch. */
    int peek(int slot, int address) {
      int entry = entryOf(slot, address);
      int where = at(table, entry);
      if (entry == NONE || where == 0) {
        return 0;
      }
      return where > 0 ? at(cells, (where - 1) * PAGE + address % PAGE) : at(disk, (-where - 1) * PAGE + address % PAGE);
    }

    private static int entryOf(int slot, int address) {
      boolean isThere = slot >= 0 && slot < SLOTS && address >= 0 && address < MOST_BREAK;
      return isThere ? slot * TABLE + address / PAGE : NONE;
    }

    /** The page of the machine that has an ADDRESS of a SLOT; it comes, if it is not there. */
    private int pageOf(int slot, int address, boolean isStored) {
      int entry = entryOf(slot, address);
      if (entry == NONE) {
        return NONE;
      }
      int page = at(table, entry) - 1;
      if (page < 0) {
        page = choosePage(NONE);
        goOut(page);
        bringIn(entry, page);
      }
      if (isStored && at(mayStore, entry) == 0) {
        if (at(uses, page) > 1) {
          int shared = page;
          page = choosePage(shared);
          goOut(page);
          part(entry, shared, page);
        }
        set(mayStore, entry, 1);
      }
      set(isTouched, page, 1);
      return page;
    }

    /** A page that nobody uses, or the next one that was not touched since the hand came by. */
    private int choosePage(int spared) {
      for (int page = 0; page < many && page < MOST_PAGES; page++) {
        if (uses[page] == 0) {
          return page;
        }
      }
      for (int i = 0; i < 3 * MOST_PAGES; i++) {
        int page = hand >= 0 && hand < many && hand < MOST_PAGES ? hand : 0;
        hand = page + 1;
        if (page != spared && isTouched[page] == 0) {
          return page;
        }
        isTouched[page] = 0;
      }
      return spared == 0 ? 1 : 0;
    }

    /** What a page has goes to the disk for all that use it. */
    private void goOut(int page) {
      if (page < 0 || page >= MOST_PAGES || uses[page] == 0) {
        return;
      }
      int free = 0;
      while (free < ENTRIES - 1 && diskUses[free] > 0) {
        free++;
      }
      System.arraycopy(cells, page * PAGE, disk, free * PAGE, PAGE);
      for (int i = 0; i < ENTRIES; i++) {
        if (table[i] == page + 1) {
          table[i] = -(free + 1);
          mayStore[i] = 0;
        }
      }
      diskUses[free] = uses[page];
      uses[page] = 0;
    }

    /** What an entry leads to on the disk comes to a page for all that use it, or the page is a new one. */
    private void bringIn(int entry, int page) {
      if (entry < 0 || entry >= ENTRIES || page < 0 || page >= MOST_PAGES || table[entry] > 0) {
        return;
      }
      int from = -table[entry] - 1;
      if (from < 0 || from >= ENTRIES) {
        for (int i = page * PAGE; i < page * PAGE + PAGE; i++) {
          cells[i] = 0;
        }
        table[entry] = page + 1;
        uses[page] = 1;
        return;
      }
      System.arraycopy(disk, from * PAGE, cells, page * PAGE, PAGE);
      for (int i = 0; i < ENTRIES; i++) {
        if (table[i] == -from - 1) {
          table[i] = page + 1;
        }
      }
      uses[page] = diskUses[from];
      diskUses[from] = 0;
    }

    /** One of those that share a page gets a page of its own. */
    private void part(int entry, int shared, int page) {
      boolean isThere = entry >= 0 && entry < ENTRIES && shared >= 0 && shared < MOST_PAGES;
      if (isThere && page >= 0 && page < MOST_PAGES) {
        System.arraycopy(cells, shared * PAGE, cells, page * PAGE, PAGE);
        uses[shared]--;
        uses[page] = 1;
        table[entry] = page + 1;
      }
    }

    private void leave(int entry) {
      int where = at(table, entry);
      if (where > 0) {
        set(uses, where - 1, at(uses, where - 1) - 1);
      } else if (where < 0) {
        set(diskUses, -where - 1, at(diskUses, -where - 1) - 1);
      }
      set(table, entry, 0);
      set(mayStore, entry, 0);
    }

    void leaveAll(int slot) {
      for (int address = 0; address < MOST_BREAK; address += PAGE) {
        int entry = entryOf(slot, address);
        if (entry != NONE) {
          leave(entry);
        }
      }
    }

    /** All pages of a SLOT are pages of another one too, till one of both stores. */
    void share(int slot, int other) {
      for (int address = 0; address < MOST_BREAK; address += PAGE) {
        int entry = entryOf(slot, address);
        int copy = entryOf(other, address);
        if (entry == NONE || copy == NONE) {
          return;
        }
        int where = at(table, entry);
        leave(copy);
        set(table, copy, where);
        set(mayStore, entry, 0);
        if (where > 0) {
          set(uses, where - 1, at(uses, where - 1) + 1);
        } else if (where < 0) {
          set(diskUses, -where - 1, at(diskUses, -where - 1) + 1);
        }
      }
    }

    /** All cells from an ADDRESS on below another one are 0 again. */
    void clear(int slot, int from, int behind) {
      for (int address = from; address < behind; address++) {
        int entry = entryOf(slot, address);
        if (entry != NONE && address % PAGE == 0 && address + PAGE <= behind) {
          leave(entry);
        } else if (peek(slot, address) != 0) {
          put(slot, address, 0);
        }
      }
    }

    void pressOut(int slot) {
      for (int address = 0; address < MOST_BREAK; address += PAGE) {
        int page = at(table, entryOf(slot, address)) - 1;
        if (entryOf(slot, address) != NONE && page >= 0) {
          goOut(page);
        }
      }
    }

    void resize(int pages) {
      for (int page = pages; page < MOST_PAGES; page++) {
        goOut(page);
      }
      many = pages;
    }

    /** Whether each page is counted as often as it is used, and none that two use can be stored to. */
    boolean isCounted() {
      Arrays.fill(users, 0);
      Arrays.fill(diskUsers, 0);
      boolean isRight = true;
      for (int i = 0; i < ENTRIES; i++) {
        int where = table[i];
        if (where > 0) {
          set(users, where - 1, at(users, where - 1) + 1);
        } else if (where < 0) {
          set(diskUsers, -where - 1, at(diskUsers, -where - 1) + 1);
        }
        isRight = isRight && (mayStore[i] == 0 || where > 0 && at(uses, where - 1) == 1);
      }
      for (int page = 0; page < MOST_PAGES; page++) {
        isRight = isRight && users[page] == uses[page] && (page < many || uses[page] == 0);
      }
      for (int page = 0; page < ENTRIES; page++) {
        isRight = isRight && diskUsers[page] == diskUses[page];
      }
      return isRight;
    }

    /** Whether all cells of a SLOT are what they were, behind all its pages went out and came in again. */
    boolean isKept(int slot) {
      for (int address = 0; address < MOST_BREAK; address++) {
        kept[address] = peek(slot, address);
      }
      pressOut(slot);
      for (int address = 0; address < MOST_BREAK; address++) {
        int entry = entryOf(slot, address);
        if (entry != NONE && at(table, entry) != 0 && load(slot, address) != kept[address]) {
          return false;
        }
      }
      return true;
    }
  }

  /** The machine as a PROCESS has it: its stack, its FRAMES, and where it is in its code. */
  private static final class Cpu {
    private final int[] stack = new int[MOST_TOKENS];
    private int top;
    private int pc;
    /** Where the STATEMENT stands in the TEXT ahead of which it rests, or in which it WAITS. */
    int place;
    int frames;
    private final int[] functions = new int[MOST_FRAMES];
    private final int[] backs = new int[MOST_FRAMES];
    private final int[] locals = new int[MOST_FRAMES * NAMES];
    /** The signal whose handler is HELD, and the FRAME of that. */
    int held;
    private int heldFrame;
    /** The SERVICE that it calls, and what was reckoned for it. */
    int service;
    int first;
    int second;
    /** What it returned from a FRAME, or told exit. */
    int value;

    /** Of another one that is in a CALL of a SERVICE: nothing is left on its stack then. */
    void copyOf(Cpu other) {
      System.arraycopy(other.functions, 0, functions, 0, functions.length);
      System.arraycopy(other.backs, 0, backs, 0, backs.length);
      System.arraycopy(other.locals, 0, locals, 0, locals.length);
      pc = other.pc;
      frames = other.frames;
      held = other.held;
      heldFrame = other.heldFrame;
    }

    void begin(Code code) {
      top = 0;
      frames = 0;
      held = 0;
      lay(code, 0, 0);
    }

    void leaveRest() {
      pc++;
    }

    /** Tells what the CALL of a SERVICE tells. */
    void tell(int told) {
      push(told);
      pc++;
    }

    /** Lays the FRAME of a handler; whether there was room. */
    boolean hold(Code code, int handler, int signal) {
      push(signal);
      if (!lay(code, handler, pc)) {
        return false;
      }
      held = signal;
      heldFrame = frames - 1;
      return true;
    }

    /** Goes on till it rests, calls a SERVICE, returns from its first FRAME, or meets a TRAP. */
    int go(Code code, Memory memory, int slot, int end) {
      for (int i = 0; i < MOST_TURNS; i++) {
        int step = at(code.steps, pc);
        int operand = at(code.operands, pc);
        if (step == REST) {
          place = operand;
          return RESTS;
        }
        if (step == SERVE) {
          ask(operand);
          return SERVES;
        }
        pc++;
        int how;
        if (step < LOAD) {
          how = reckon(step, operand);
        } else if (step < JUMP) {
          how = touch(step, operand, memory, slot, end);
        } else {
          how = jump(step, operand, code);
        }
        if (how != GOES) {
          return how;
        }
      }
      return RESTS;
    }

    private void ask(int token) {
      int takes = at(TAKES, token - SERVICE);
      service = token;
      second = takes > 1 ? pop() : 0;
      first = takes > 0 ? pop() : 0;
    }

    private void push(int pushed) {
      if (top >= 0 && top < stack.length) {
        stack[top] = pushed;
        top++;
      }
    }

    private int pop() {
      if (top <= 0 || top > stack.length) {
        return 0;
      }
      top--;
      return stack[top];
    }

    private int reckon(int step, int operand) {
      switch (step) {
        case PUSH: push(operand); return GOES;
        case LOCAL: push(at(locals, (frames - 1) * NAMES + operand)); return GOES;
        case SET_LOCAL: set(locals, (frames - 1) * NAMES + operand, pop()); return GOES;
        case DROP: pop(); return GOES;
        default: break;
      }
      int right = pop();
      if (step < EQUALS) {
        push(Code.ofOne(step, right));
        return GOES;
      }
      int left = pop();
      if (right == 0 && (step == DIVIDE || step == REMAINDER)) {
        return TRAPS + 2;
      }
      push(Code.ofTwo(step, left, right));
      return GOES;
    }

    private int touch(int step, int operand, Memory memory, int slot, int end) {
      if (step == CELL) {
        push(memory.load(slot, operand));
        return GOES;
      }
      int stored = step == LOAD ? 0 : pop();
      int address = step == SET_CELL ? operand : pop();
      if (!isIn(address, FIRST_CELL, end)) {
        return TRAPS + 1;
      }
      if (step == LOAD) {
        push(memory.load(slot, address));
      } else {
        memory.put(slot, address, stored);
      }
      return GOES;
    }

    private int jump(int step, int operand, Code code) {
      if (step == CALL) {
        return lay(code, operand, pc) ? GOES : TRAPS + 3;
      }
      if (step == RETURN) {
        return giveBack();
      }
      if (step == JUMP) {
        pc = operand;
        return GOES;
      }
      int tested = pop();
      if ((step == SKIP_OR) == (tested != 0)) {
        pc = operand;
        if (step != UNLESS) {
          push(tested == 0 ? 0 : 1);
        }
      }
      return GOES;
    }

    /** Lays a FRAME, its parameters from the stack; whether there was room. */
    private boolean lay(Code code, int function, int back) {
      if (frames < 0 || frames >= MOST_FRAMES) {
        return false;
      }
      for (int i = frames * NAMES; i < frames * NAMES + NAMES; i++) {
        locals[i] = 0;
      }
      functions[frames] = function;
      backs[frames] = back;
      for (int i = at(code.parameters, function) - 1; i >= 0; i--) {
        set(locals, frames * NAMES + (at(code.orders, function) >> 3 * i & 7), pop());
      }
      frames++;
      pc = at(code.entries, function);
      return true;
    }

    private int giveBack() {
      value = pop();
      if (frames <= 1) {
        return RETURNS;
      }
      frames--;
      pc = at(backs, frames);
      if (held != 0 && heldFrame == frames) {
        held = 0;
      } else {
        push(value);
      }
      return GOES;
    }

    int functionOf(int frame) {
      return frame >= 0 && frame < frames ? at(functions, frame) : NONE;
    }

    int localAt(int frame, int name) {
      return at(locals, frame * NAMES + name);
    }
  }

  /** A PROCESS, from its beginning on for ever: what is told of it when it is GONE stands here too. */
  private static final class Process {
    final int pid;
    int parent;
    int state = READY;
    int program;
    int slot;
    int breakAt = HEAP;
    int signals;
    int ticks;
    int idle;
    int exitCode;
    int why;
    final Code code = new Code();
    final Cpu cpu = new Cpu();
    private final int[] handlers = new int[3];
    private final int[] descriptors = new int[DESCRIPTORS];

    Process(int pid, int parent, int slot) {
      this.pid = pid;
      this.parent = parent;
      this.slot = slot;
      Arrays.fill(descriptors, NONE);
    }

    /** Has all that its parent has, but no signals. */
    void copyOf(Process other) {
      code.copyOf(other.code);
      cpu.copyOf(other.cpu);
      program = other.program;
      breakAt = other.breakAt;
      System.arraycopy(other.handlers, 0, handlers, 0, handlers.length);
      System.arraycopy(other.descriptors, 0, descriptors, 0, descriptors.length);
    }

    boolean isLive() {
      return state == READY || state == WAITING;
    }

    boolean isOwn(int address) {
      return isLive() && isIn(address, FIRST_CELL, breakAt);
    }

    /** The OPENING to which a DESCRIPTOR leads; NONE. */
    int opened(int descriptor) {
      return isIn(descriptor, 0, DESCRIPTORS) ? at(descriptors, descriptor) : NONE;
    }

    void lead(int descriptor, int opening) {
      set(descriptors, descriptor, opening);
    }

    /** The smallest DESCRIPTOR from one on that is free; NONE. */
    int freeFrom(int from) {
      for (int i = from; i < DESCRIPTORS; i++) {
        if (at(descriptors, i) == NONE) {
          return i;
        }
      }
      return NONE;
    }

    int handlerOf(int signal) {
      return at(handlers, signal);
    }

    void handle(int signal, int handler) {
      set(handlers, signal, handler);
    }

    void forgetHandlers() {
      Arrays.fill(handlers, 0);
    }

    /** The signal that is to be taken; 0. */
    int due() {
      if ((signals & 4) != 0) {
        return 3;
      }
      if (cpu.held != 0 || signals == 0) {
        return 0;
      }
      return (signals & 1) != 0 ? 1 : 2;
    }

    int openDescriptors() {
      int open = 0;
      for (int i = 0; i < DESCRIPTORS; i++) {
        if (opened(i) != NONE) {
          open++;
        }
      }
      return open;
    }

    int told(int what) {
      switch (what) {
        case 0: return parent;
        case 1: return cpu.frames;
        case 2: return breakAt;
        case 3: return isLive() ? signals : 0;
        case 4: return isLive() ? cpu.held : 0;
        case 5: return program;
        case 6: return ticks;
        case 7: return exitCode;
        case 8: return why;
        case 9: return isLive() ? openDescriptors() : 0;
        case 10: return isLive() ? idle : 0;
        default: return slot;
      }
    }
  }

  /** FILES at one time: which BODY a name has, and the cells of all BODIES. */
  private static final class Shelf {
    // ACTS, as they stand in a record
    private static final int MAKE = 1;
    private static final int UNNAME = 2;
    private static final int EMPTY = 3;
    private static final int STORE_CELL = 4;

    private final int[] named = new int[NAMES];
    private final int[] lengths = new int[BODIES];
    private final int[] cells = new int[BODIES * BODY_CELLS];

    Shelf() {
      Arrays.fill(named, NONE);
    }

    void copyOf(Shelf other) {
      System.arraycopy(other.named, 0, named, 0, named.length);
      System.arraycopy(other.lengths, 0, lengths, 0, lengths.length);
      System.arraycopy(other.cells, 0, cells, 0, cells.length);
    }

    int bodyOf(int name) {
      return isIn(name, 0, NAMES) ? at(named, name) : NONE;
    }

    int nameOf(int body) {
      for (int name = 0; name < NAMES; name++) {
        if (named[name] == body) {
          return name;
        }
      }
      return NONE;
    }

    int names() {
      int found = 0;
      for (int name = 0; name < NAMES; name++) {
        if (named[name] != NONE) {
          found++;
        }
      }
      return found;
    }

    int lengthOf(int body) {
      return at(lengths, body);
    }

    int cellAt(int body, int place) {
      return at(cells, body * BODY_CELLS + place);
    }

    /** Does an ACT again, as its record tells; the same ones in the same order always lead to the same FILES. */
    void apply(int kind, int which, int place, int value, int length) {
      switch (kind) {
        case MAKE:
          set(named, which, place);
          set(lengths, place, 0);
          break;
        case UNNAME: set(named, which, NONE); break;
        case EMPTY: set(lengths, which, 0); break;
        default:
          set(cells, which * BODY_CELLS + place, value);
          set(lengths, which, length);
          break;
      }
    }

    boolean hasSameFiles(Shelf other) {
      for (int name = 0; name < NAMES; name++) {
        int body = named[name];
        int otherBody = other.bodyOf(name);
        if ((body == NONE) != (otherBody == NONE)) {
          return false;
        }
        if (body != NONE && !isSameBody(body, other, otherBody)) {
          return false;
        }
      }
      return true;
    }

    private boolean isSameBody(int body, Shelf other, int otherBody) {
      boolean isSame = lengthOf(body) == other.lengthOf(otherBody);
      for (int i = 0; i < lengthOf(body) && isSame; i++) {
        isSame = cellAt(body, i) == other.cellAt(otherBody, i);
      }
      return isSame;
    }
  }

  /**
   * FILES as they are now, the ACTS that are PENDING, and their disk: a head that tells which ACT is the first in the
   * log, a home for names and BODIES, and the log. A SYNC writes the log, then the home, then the head: a CRASH
   * between two of these finds all ACTS in the log.
   */
  private static final class Files {
    private static final int BLOCK = 8;
    private static final int BODY_BLOCKS = 3;
    private static final int HOME_BLOCKS = 1 + BODIES * BODY_BLOCKS;
    private static final int HOME_FROM = BLOCK;
    private static final int LOG_FROM = HOME_FROM + HOME_BLOCKS * BLOCK;

    final Shelf now = new Shelf();
    private final Shelf synced = new Shelf();
    private final Shelf read = new Shelf();
    private final int[] opens = new int[BODIES];
    private final int[] acts = new int[MOST_ACTS * BLOCK];
    int pending;
    private final int[] disk = new int[LOG_FROM + MOST_ACTS * BLOCK];
    private final int[] image = new int[HOME_BLOCKS * BLOCK];
    /** The number of the first ACT behind the last SYNC; it never comes again, so nothing old in the log is valid. */
    private int head = 1;

    Files() {
      draw(now);
      writeHome(HOME_BLOCKS + 1);
    }

    int bodies() {
      int found = 0;
      for (int body = 0; body < BODIES; body++) {
        if (isBody(body)) {
          found++;
        }
      }
      return found;
    }

    private boolean isBody(int body) {
      return at(opens, body) > 0 || now.nameOf(body) != NONE;
    }

    void openBody(int body) {
      set(opens, body, at(opens, body) + 1);
    }

    void closeBody(int body) {
      set(opens, body, at(opens, body) - 1);
    }

    /** Makes a FILE: its BODY; NONE, if there is no room for one. */
    int make(int name) {
      for (int body = 0; body < BODIES; body++) {
        if (!isBody(body)) {
          act(Shelf.MAKE, name, body, 0, 0);
          return body;
        }
      }
      return NONE;
    }

    boolean unlink(int name) {
      if (now.bodyOf(name) == NONE) {
        return false;
      }
      act(Shelf.UNNAME, name, 0, 0, 0);
      return true;
    }

    void empty(int body) {
      act(Shelf.EMPTY, body, 0, 0, 0);
    }

    void putCell(int body, int place, int value) {
      int length = now.lengthOf(body);
      act(Shelf.STORE_CELL, body, place, value, place < length ? length : place + 1);
    }

    /** Adds a cell at the end of a FILE: how many it has then, or REFUSED. */
    int append(int name, int value) {
      int body = now.bodyOf(name);
      if (body == NONE) {
        body = make(name);
      }
      if (body == NONE || now.lengthOf(body) >= BODY_CELLS) {
        return REFUSED;
      }
      putCell(body, now.lengthOf(body), value);
      return now.lengthOf(body);
    }

    /** A record has its number at both ends: one that came to the disk by half tells two numbers. */
    private void act(int kind, int which, int place, int value, int length) {
      int from = pending * BLOCK;
      set(acts, from, head + pending);
      set(acts, from + 1, kind);
      set(acts, from + 2, which);
      set(acts, from + 3, place);
      set(acts, from + 4, value);
      set(acts, from + 5, length);
      set(acts, from + 7, head + pending);
      now.apply(kind, which, place, value, length);
      pending++;
      if (pending >= MOST_ACTS) {
        syncAll();
      }
    }

    /** A SYNC: how many ACTS were PENDING. */
    int syncAll() {
      int had = pending;
      writeLog(pending, false);
      draw(now);
      writeHome(HOME_BLOCKS + 1);
      synced.copyOf(now);
      pending = 0;
      return had;
    }

    private void writeLog(int n, boolean isTorn) {
      int behind = n * BLOCK + (isTorn && n < pending ? BLOCK / 2 : 0);
      for (int i = 0; i < behind && i < acts.length; i++) {
        disk[LOG_FROM + i] = acts[i];
      }
    }

    /** Draws what the home of FILES is to be. */
    private void draw(Shelf shelf) {
      System.arraycopy(shelf.named, 0, image, 0, NAMES);
      for (int body = 0; body < BODIES; body++) {
        int from = (1 + body * BODY_BLOCKS) * BLOCK;
        image[from] = shelf.lengths[body];
        System.arraycopy(shelf.cells, body * BODY_CELLS, image, from + 1, BODY_CELLS);
      }
    }

    /** Writes so many blocks of what was drawn, and the head as the last one: with it the log is void. */
    private void writeHome(int blocks) {
      for (int i = 0; i < blocks * BLOCK && i < image.length; i++) {
        disk[HOME_FROM + i] = image[i];
      }
      if (blocks > HOME_BLOCKS) {
        head += MOST_ACTS;
        disk[0] = head;
      }
    }

    /** What the disk tells, its log with it. */
    private void readAnew(Shelf shelf) {
      System.arraycopy(disk, HOME_FROM, shelf.named, 0, NAMES);
      for (int body = 0; body < BODIES; body++) {
        int from = HOME_FROM + (1 + body * BODY_BLOCKS) * BLOCK;
        shelf.lengths[body] = disk[from];
        System.arraycopy(disk, from + 1, shelf.cells, body * BODY_CELLS, BODY_CELLS);
      }
      for (int i = 0; i < MOST_ACTS; i++) {
        int from = LOG_FROM + i * BLOCK;
        int due = at(disk, 0) + i;
        if (at(disk, from) != due || at(disk, from + 7) != due) {
          break;
        }
        applyRecord(shelf, disk, from);
      }
    }

    private static void applyRecord(Shelf shelf, int[] row, int from) {
      shelf.apply(at(row, from + 1), at(row, from + 2), at(row, from + 3), at(row, from + 4), at(row, from + 5));
    }

    /** FILES as they would be behind a CRASH with so many ACTS on the disk. */
    Shelf shelfBehind(int n) {
      readAnew(read);
      for (int i = 0; i < n; i++) {
        applyRecord(read, acts, i * BLOCK);
      }
      return read;
    }

    /** A CRASH with so many ACTS in the log, and the next one there by half. */
    void restartBehind(int n, boolean isTorn) {
      writeLog(n, isTorn);
      restart();
    }

    /** A CRASH within a SYNC, behind so many blocks that followed the log. */
    void restartWithin(int blocks) {
      writeLog(pending, false);
      draw(now);
      writeHome(blocks);
      restart();
    }

    private void restart() {
      Arrays.fill(opens, 0);
      readAnew(now);
      draw(now);
      writeHome(HOME_BLOCKS + 1);
      synced.copyOf(now);
      pending = 0;
    }

    boolean isKept() {
      return shelfBehind(0).hasSameFiles(synced) && shelfBehind(pending).hasSameFiles(now);
    }
  }

  /** OPENINGS, and the PIPES to whose ends some of them lead. */
  private static final class Openings {
    private static final int MOST_OPENINGS = SLOTS * DESCRIPTORS;
    private static final int FILE = 1;
    private static final int READING_END = 2;
    private static final int WRITING_END = 3;

    private final int[] kinds = new int[MOST_OPENINGS];
    /** The BODY or the PIPE. */
    private final int[] targets = new int[MOST_OPENINGS];
    private final int[] positions = new int[MOST_OPENINGS];
    private final int[] modes = new int[MOST_OPENINGS];
    /** How many DESCRIPTORS lead to it. */
    private final int[] leads = new int[MOST_OPENINGS];
    /** By PIPES, the OPENING of the reading end, then that of the writing end; NONE. */
    private final int[] ends = new int[PIPES * 2];
    private final int[] held = new int[PIPES * PIPE_CELLS];
    private final int[] counts = new int[PIPES];
    private final int[] seen = new int[MOST_OPENINGS];

    Openings() {
      Arrays.fill(ends, NONE);
    }

    int openings() {
      int found = 0;
      for (int i = 0; i < MOST_OPENINGS; i++) {
        if (kinds[i] != 0) {
          found++;
        }
      }
      return found;
    }

    private int add(int kind, int target, int mode) {
      for (int i = 0; i < MOST_OPENINGS; i++) {
        if (kinds[i] == 0) {
          kinds[i] = kind;
          targets[i] = target;
          modes[i] = mode;
          positions[i] = 0;
          leads[i] = 1;
          return i;
        }
      }
      return NONE;
    }

    int openFile(int body, int mode) {
      return add(FILE, body, mode);
    }

    void lead(int opening) {
      if (opening != NONE) {
        set(leads, opening, at(leads, opening) + 1);
      }
    }

    /** A DESCRIPTOR leads there no more: the BODY that is open once less then; NONE. */
    int leave(int opening) {
      set(leads, opening, at(leads, opening) - 1);
      if (at(leads, opening) > 0) {
        return NONE;
      }
      int kind = at(kinds, opening);
      int target = at(targets, opening);
      set(kinds, opening, 0);
      if (kind == FILE) {
        return target;
      }
      set(ends, target * 2 + kind - READING_END, NONE);
      if (!isPipe(target)) {
        set(counts, target, 0);
      }
      return NONE;
    }

    boolean isFile(int opening) {
      return at(kinds, opening) == FILE && opening != NONE;
    }

    boolean isReading(int opening) {
      int kind = opening == NONE ? 0 : at(kinds, opening);
      return kind == READING_END || kind == FILE && at(modes, opening) == 0;
    }

    boolean isWriting(int opening) {
      int kind = opening == NONE ? 0 : at(kinds, opening);
      return kind == WRITING_END || kind == FILE && at(modes, opening) != 0;
    }

    int targetOf(int opening) {
      return at(targets, opening);
    }

    int positionOf(int opening) {
      return at(positions, opening);
    }

    int modeOf(int opening) {
      return at(modes, opening);
    }

    void move(int opening, int position) {
      set(positions, opening, position);
    }

    /** A BODY was emptied. */
    void rewind(int body) {
      for (int i = 0; i < MOST_OPENINGS; i++) {
        if (kinds[i] == FILE && targets[i] == body) {
          positions[i] = 0;
        }
      }
    }

    boolean isPipe(int pipe) {
      return endOf(pipe, 0) != NONE || endOf(pipe, 1) != NONE;
    }

    private int endOf(int pipe, int end) {
      boolean isThere = pipe >= 0 && pipe < PIPES && end >= 0 && end < 2;
      return isThere ? ends[pipe * 2 + end] : NONE;
    }

    int pipes() {
      int found = 0;
      for (int pipe = 0; pipe < PIPES; pipe++) {
        if (isPipe(pipe)) {
          found++;
        }
      }
      return found;
    }

    int freePipe() {
      for (int pipe = 0; pipe < PIPES; pipe++) {
        if (!isPipe(pipe)) {
          return pipe;
        }
      }
      return NONE;
    }

    /** Opens one end of a PIPE: 0 the reading one, 1 the writing one. */
    int openEnd(int pipe, int end) {
      int opening = add(READING_END + end, pipe, 0);
      set(ends, pipe * 2 + end, opening);
      return opening;
    }

    /** 0 how many cells it holds, 1 and 2 how many DESCRIPTORS lead to its ends; NONE without the PIPE. */
    int pipeTold(int pipe, int what) {
      if (!isPipe(pipe)) {
        return NONE;
      }
      if (what == 0) {
        return at(counts, pipe);
      }
      int opening = endOf(pipe, what - 1);
      return opening == NONE ? 0 : at(leads, opening);
    }

    int heldAt(int pipe, int place) {
      return at(held, pipe * PIPE_CELLS + place);
    }

    void putIn(int pipe, int value) {
      set(held, pipe * PIPE_CELLS + at(counts, pipe), value);
      set(counts, pipe, at(counts, pipe) + 1);
    }

    int takeOut(int pipe) {
      int taken = heldAt(pipe, 0);
      for (int i = 1; i < PIPE_CELLS; i++) {
        set(held, pipe * PIPE_CELLS + i - 1, heldAt(pipe, i));
      }
      set(counts, pipe, at(counts, pipe) - 1);
      return taken;
    }

    void forgetSeen() {
      Arrays.fill(seen, 0);
    }

    void see(int opening) {
      if (opening != NONE) {
        set(seen, opening, at(seen, opening) + 1);
      }
    }

    /** Whether just the DESCRIPTORS that were seen lead to OPENINGS, and PIPES are there just as they are led to. */
    boolean isLedTo() {
      int pipeEnds = 0;
      for (int i = 0; i < MOST_OPENINGS; i++) {
        if (kinds[i] == 0 ? seen[i] != 0 : seen[i] == 0 || seen[i] != leads[i]) {
          return false;
        }
        if (kinds[i] >= READING_END) {
          pipeEnds++;
          if (endOf(targets[i], kinds[i] - READING_END) != i) {
            return false;
          }
        }
      }
      for (int i = 0; i < ends.length; i++) {
        if (ends[i] != NONE) {
          pipeEnds--;
        }
      }
      return pipeEnds == 0;
    }
  }

  /** INPUTS that wait, and all OUTS. */
  private static final class Talk {
    private final int[] waiting = new int[MOST_INPUTS];
    int inputs;
    private int[] pids = new int[64];
    private int[] values = new int[64];
    int outs;

    void take(int value) {
      if (inputs < MOST_INPUTS) {
        set(waiting, inputs, value);
        inputs++;
      }
    }

    int input(int place) {
      return at(waiting, place);
    }

    int takeFirst() {
      int first = at(waiting, 0);
      for (int i = 1; i < MOST_INPUTS; i++) {
        waiting[i - 1] = waiting[i];
      }
      inputs--;
      return first;
    }

    void put(int pid, int value) {
      if (outs >= MOST_OUTS) {
        return;
      }
      if (outs >= pids.length) {
        pids = Arrays.copyOf(pids, pids.length * 2);
        values = Arrays.copyOf(values, values.length * 2);
      }
      set(pids, outs, pid);
      set(values, outs, value);
      outs++;
    }

    int outPid(int place) {
      return at(pids, place);
    }

    int outValue(int place) {
      return at(values, place);
    }
  }

  /** Who has the next TICK, what happens in it, and all SERVICES. */
  private static final class Kernel {
    final Text[] texts = new Text[PROGRAMS];
    private final Translator translator = new Translator();
    private final Code trial = new Code();
    int level;
    final Memory memory = new Memory();
    final Files files = new Files();
    final Openings openings = new Openings();
    final Talk talk = new Talk();
    private final Process[] processes = new Process[MOST_PIDS + 1];
    int pids;
    /** The PID in each SLOT; 0. */
    private final int[] slots = new int[SLOTS];
    int turn = NONE;
    private int turnSlot;
    int used;
    int quantum = 3;
    private boolean hasPaused;
    /** The child of a fork that has not gone on yet. */
    private Process born;
    int ticks;
    int crashes;
    private int mostIdle;

    Kernel() {
      for (int i = 0; i < PROGRAMS; i++) {
        texts[i] = new Text();
      }
    }

    // ---- PROGRAMS

    /** A TEXT whose ERROR is known. */
    Text checked(int program) {
      Text text = texts[isIn(program, 0, PROGRAMS) ? program : 0];
      if (!text.isChecked) {
        translator.translate(text, trial);
        text.error = translator.error;
        text.kind = translator.kind;
        System.arraycopy(trial.locals, 0, text.locals, 0, FUNCTIONS);
        text.isChecked = true;
        text.isWeighed = false;
      }
      return text;
    }

    int locality(int program, int function, int name) {
      Text text = checked(program);
      if (text.kind != 0 || !text.isDefined(function)) {
        return NONE;
      }
      return at(text.locals, function) >> name & 1;
    }

    /** Whether code of LEVEL 2 has no more steps than that of LEVEL 0. */
    private boolean isLighter(int program) {
      Text text = checked(program);
      if (text.kind != 0) {
        return true;
      }
      if (!text.isWeighed) {
        translator.translate(text, trial);
        int plain = trial.many;
        trial.shorten(2);
        text.isLighter = trial.many <= plain;
        text.isWeighed = true;
      }
      return text.isLighter;
    }

    // ---- PROCESSES and TICKS

    Process processOf(int pid) {
      return pid >= 1 && pid <= pids && pid < processes.length ? processes[pid] : null;
    }

    private Process inSlot(int slot) {
      return processOf(at(slots, slot));
    }

    int housed() {
      int found = 0;
      for (int slot = 0; slot < SLOTS; slot++) {
        if (slots[slot] != 0) {
          found++;
        }
      }
      return found;
    }

    int able() {
      int found = 0;
      for (int slot = 0; slot < SLOTS; slot++) {
        Process process = inSlot(slot);
        if (process != null && canGoOn(process)) {
          found++;
        }
      }
      return found;
    }

    boolean hasRoom() {
      return housed() < SLOTS && pids < MOST_PIDS;
    }

    private Process beget(int parent) {
      int slot = 0;
      while (slot < SLOTS - 1 && slots[slot] != 0) {
        slot++;
      }
      pids++;
      Process process = new Process(pids, parent, slot);
      slots[slot] = pids;
      if (pids < processes.length) {
        processes[pids] = process;
      }
      return process;
    }

    /** A PROCESS of nobody begins: its PID, or REFUSED. */
    int begin(int program) {
      Text text = checked(program);
      if (text.kind != 0) {
        return REFUSED;
      }
      Process process = beget(0);
      load(process, program, text);
      settle(process, goOn(process));
      return process.pid;
    }

    /** A PROCESS is to begin with F of a PROGRAM. */
    private void load(Process process, int program, Text text) {
      process.program = program;
      process.breakAt = HEAP;
      process.forgetHandlers();
      memory.leaveAll(process.slot);
      translator.translate(text, process.code);
      process.code.shorten(level);
      process.cpu.begin(process.code);
    }

    boolean canGoOn(Process process) {
      if (process.state == READY) {
        return true;
      }
      return process.state == WAITING && (process.due() != 0 || !mustWait(process));
    }

    /** The PROCESS that would have the next TICK; null. */
    Process nextProcess() {
      Process last = processOf(turn);
      if (last != null && used < quantum && canGoOn(last)) {
        return last;
      }
      int from = turn == NONE ? 0 : turnSlot + 1;
      for (int i = 0; i < SLOTS; i++) {
        Process process = inSlot((from + i) % SLOTS);
        if (process != null && canGoOn(process)) {
          return process;
        }
      }
      return null;
    }

    /** A TICK: PID of whose it was; NONE. */
    int tick() {
      Process process = nextProcess();
      if (process == null) {
        return NONE;
      }
      countIdle(process);
      if (process.pid != turn || used >= quantum) {
        used = 0;
      }
      turn = process.pid;
      turnSlot = process.slot;
      used++;
      ticks++;
      process.ticks++;
      hasPaused = false;
      int how = open(process);
      for (int i = 0; i < 3 && (how == GOES || how == SERVES); i++) {
        how = how == GOES ? goOn(process) : serve(process);
        if (born != null) {
          Process child = born;
          born = null;
          settle(child, goOn(child));
        }
      }
      settle(process, how);
      if (hasPaused) {
        used = quantum;
      }
      return turn;
    }

    private void countIdle(Process ticked) {
      for (int slot = 0; slot < SLOTS; slot++) {
        Process process = inSlot(slot);
        if (process != null) {
          process.idle = process != ticked && canGoOn(process) ? process.idle + 1 : 0;
          mostIdle = Math.max(mostIdle, process.idle);
        }
      }
    }

    /** How a TICK begins: with a signal, with the CALL that WAITS, or with a STATEMENT. */
    private int open(Process process) {
      int signal = process.due();
      if (process.state == WAITING) {
        process.state = READY;
        if (signal == 0) {
          return SERVES;
        }
        process.cpu.tell(NONE);
        return GOES;
      }
      if (signal == 0) {
        process.cpu.leaveRest();
        return GOES;
      }
      return takeSignal(process, signal);
    }

    private int takeSignal(Process process, int signal) {
      int handler = signal < 3 ? process.handlerOf(signal) : 0;
      if (handler == 0) {
        return KILLED + signal;
      }
      process.signals &= ~(1 << signal - 1);
      return process.cpu.hold(process.code, handler, signal) ? GOES : TRAPS + 3;
    }

    private int goOn(Process process) {
      return process.cpu.go(process.code, memory, process.slot, process.breakAt);
    }

    private void settle(Process process, int how) {
      if (how == RETURNS) {
        end(process, process.cpu.value, BY_RETURN);
      } else if (how > KILLED) {
        end(process, 100 + how - KILLED, BY_SIGNAL);
      } else if (how > TRAPS) {
        end(process, 200 + how - TRAPS, 1 + how - TRAPS);
      }
    }

    private void end(Process process, int code, int why) {
      for (int i = 0; i < DESCRIPTORS; i++) {
        closeOne(process, i);
      }
      for (int pid = 1; pid <= pids; pid++) {
        Process child = processOf(pid);
        if (child != null && child.parent == process.pid) {
          child.parent = 0;
          if (child.state == ENDED) {
            vanish(child);
          }
        }
      }
      memory.leaveAll(process.slot);
      process.exitCode = code;
      process.why = why;
      process.state = ENDED;
      if (process.parent == 0) {
        vanish(process);
      }
    }

    private void vanish(Process process) {
      set(slots, process.slot, 0);
      process.slot = NONE;
      process.state = GONE;
    }

    /** What a CRASH does to all PROCESSES. */
    void endAll() {
      for (int pid = 1; pid <= pids; pid++) {
        Process process = processOf(pid);
        if (process != null) {
          process.parent = 0;
          if (process.isLive()) {
            end(process, 0, BY_CRASH);
          } else if (process.state == ENDED) {
            vanish(process);
          }
        }
      }
      talk.inputs = 0;
      turn = NONE;
      used = 0;
      crashes++;
    }

    boolean signal(int pid, int signal) {
      Process process = processOf(pid);
      if (process == null || !process.isLive()) {
        return false;
      }
      process.signals |= 1 << signal - 1;
      return true;
    }

    // ---- SERVICES

    /** Whether the CALL in which a PROCESS is would WAIT now. */
    private boolean mustWait(Process process) {
      int opening = process.opened(process.cpu.first);
      int pipe = openings.targetOf(opening);
      switch (process.cpu.service) {
        case WAIT: return firstChild(process, false) != null && firstChild(process, true) == null;
        case READ:
          return openings.isReading(opening) && !openings.isFile(opening)
              && openings.pipeTold(pipe, 0) == 0 && openings.pipeTold(pipe, 2) > 0;
        case WRITE:
          return openings.isWriting(opening) && !openings.isFile(opening)
              && openings.pipeTold(pipe, 0) >= PIPE_CELLS && openings.pipeTold(pipe, 1) > 0;
        case GET: return talk.inputs == 0;
        default: return false;
      }
    }

    private boolean hasOwnAddresses(Process process) {
      int first = process.cpu.first;
      switch (process.cpu.service) {
        case WAIT: return first == 0 || process.isOwn(first);
        case PIPE: return process.isOwn(first) && process.isOwn(first + 1);
        case READ: return process.isOwn(process.cpu.second);
        case GET: return process.isOwn(first);
        default: return true;
      }
    }

    /** Does the CALL of a SERVICE, or lets the PROCESS WAIT in it. */
    private int serve(Process process) {
      if (!hasOwnAddresses(process)) {
        return TRAPS + 1;
      }
      if (mustWait(process)) {
        process.state = WAITING;
        return WAITS;
      }
      int first = process.cpu.first;
      int second = process.cpu.second;
      int told = NONE;
      switch (process.cpu.service) {
        case FORK: told = fork(process); break;
        case EXEC:
          Text text = isIn(first, 0, PROGRAMS) ? checked(first) : null;
          if (text != null && text.kind == 0) {
            load(process, first, text);
            return GOES;
          }
          break;
        case WAIT: told = await(process, first); break;
        case EXIT: process.cpu.value = first; return RETURNS;
        case PIPE: told = makePipe(process, first); break;
        case READ: told = readCell(process, first, second); break;
        case WRITE: told = writeCell(process, first, second); break;
        case OPEN_FILE: told = openFile(process, first, second); break;
        case CLOSE_FILE: told = closeOne(process, first) ? 0 : NONE; break;
        case UNLINK: told = files.unlink(first) ? 0 : NONE; break;
        case KILL: told = isIn(second, 1, 4) && signal(first, second) ? 0 : NONE; break;
        case ON: told = handle(process, first, second); break;
        case PUT: talk.put(process.pid, first); told = first; break;
        case GET: memory.put(process.slot, first, talk.takeFirst()); told = 1; break;
        case GROW: told = grow(process, first); break;
        case PID: told = process.pid; break;
        case PAUSE: hasPaused = true; told = 0; break;
        default: told = files.syncAll(); break;
      }
      process.cpu.tell(told);
      return GOES;
    }

    /** The child is born: the TICK lets it go on ahead of its parent. */
    private int fork(Process process) {
      if (!hasRoom()) {
        return NONE;
      }
      Process child = beget(process.pid);
      child.copyOf(process);
      memory.share(process.slot, child.slot);
      for (int i = 0; i < DESCRIPTORS; i++) {
        openings.lead(child.opened(i));
      }
      child.cpu.tell(0);
      born = child;
      return child.pid;
    }

    /** The child with the smallest PID that is ENDED, or has a SLOT at all; null. */
    private Process firstChild(Process process, boolean isEnded) {
      Process found = null;
      for (int slot = 0; slot < SLOTS; slot++) {
        Process child = inSlot(slot);
        if (child != null && child.parent == process.pid && (!isEnded || child.state == ENDED)
            && (found == null || child.pid < found.pid)) {
          found = child;
        }
      }
      return found;
    }

    private int await(Process process, int address) {
      Process child = firstChild(process, true);
      if (child == null) {
        return NONE;
      }
      vanish(child);
      if (address != 0) {
        memory.put(process.slot, address, child.exitCode);
      }
      return child.pid;
    }

    private int makePipe(Process process, int address) {
      int reading = process.freeFrom(0);
      int writing = reading == NONE ? NONE : process.freeFrom(reading + 1);
      int pipe = openings.freePipe();
      if (writing == NONE || pipe == NONE) {
        return NONE;
      }
      process.lead(reading, openings.openEnd(pipe, 0));
      process.lead(writing, openings.openEnd(pipe, 1));
      memory.put(process.slot, address, reading);
      memory.put(process.slot, address + 1, writing);
      return 0;
    }

    private int readCell(Process process, int descriptor, int address) {
      int opening = process.opened(descriptor);
      if (!openings.isReading(opening)) {
        return NONE;
      }
      int target = openings.targetOf(opening);
      int position = openings.positionOf(opening);
      if (openings.isFile(opening)) {
        if (position >= files.now.lengthOf(target)) {
          return 0;
        }
        openings.move(opening, position + 1);
        memory.put(process.slot, address, files.now.cellAt(target, position));
        return 1;
      }
      if (openings.pipeTold(target, 0) == 0) {
        return 0;
      }
      memory.put(process.slot, address, openings.takeOut(target));
      return 1;
    }

    private int writeCell(Process process, int descriptor, int value) {
      int opening = process.opened(descriptor);
      if (!openings.isWriting(opening)) {
        return NONE;
      }
      int target = openings.targetOf(opening);
      if (openings.isFile(opening)) {
        if (openings.modeOf(opening) == 3) {
          openings.move(opening, files.now.lengthOf(target));
        }
        int position = openings.positionOf(opening);
        if (position >= BODY_CELLS) {
          return NONE;
        }
        openings.move(opening, position + 1);
        files.putCell(target, position, value);
        return 1;
      }
      if (openings.pipeTold(target, 1) == 0) {
        return NONE;
      }
      openings.putIn(target, value);
      return 1;
    }

    private int openFile(Process process, int name, int mode) {
      int descriptor = process.freeFrom(0);
      if (!isIn(name, 0, NAMES) || !isIn(mode, 0, 4) || descriptor == NONE) {
        return NONE;
      }
      int body = files.now.bodyOf(name);
      if (body == NONE && mode > 0) {
        body = files.make(name);
      }
      if (body == NONE) {
        return NONE;
      }
      if (mode == 2 && files.now.lengthOf(body) > 0) {
        files.empty(body);
        openings.rewind(body);
      }
      files.openBody(body);
      process.lead(descriptor, openings.openFile(body, mode));
      return descriptor;
    }

    /** Closes a DESCRIPTOR; whether it was open. */
    private boolean closeOne(Process process, int descriptor) {
      int opening = process.opened(descriptor);
      if (opening == NONE) {
        return false;
      }
      process.lead(descriptor, NONE);
      int body = openings.leave(opening);
      if (body != NONE) {
        files.closeBody(body);
      }
      return true;
    }

    private int handle(Process process, int signal, int handler) {
      boolean isHandler = handler == 0 || isIn(handler, 1, FUNCTIONS) && at(process.code.parameters, handler) == 1;
      if (!isIn(signal, 1, 3) || !isHandler) {
        return NONE;
      }
      int before = process.handlerOf(signal);
      process.handle(signal, handler);
      return before;
    }

    private int grow(Process process, int many) {
      int before = process.breakAt;
      long behind = (long) before + many;
      if (behind < HEAP || behind > MOST_BREAK) {
        return NONE;
      }
      process.breakAt = (int) behind;
      memory.clear(process.slot, Math.min(before, process.breakAt), Math.max(before, process.breakAt));
      return before;
    }

    // ---- whether all is sound

    boolean isWhole() {
      boolean isSound = memory.isCounted() && files.isKept() && mostIdle <= MOST_IDLE;
      openings.forgetSeen();
      for (int slot = 0; slot < SLOTS; slot++) {
        Process process = inSlot(slot);
        if (process != null && process.isLive()) {
          isSound = isSound && memory.isKept(slot);
          for (int i = 0; i < DESCRIPTORS; i++) {
            openings.see(process.opened(i));
          }
        }
      }
      for (int program = 0; program < PROGRAMS; program++) {
        isSound = isSound && isLighter(program);
      }
      return isSound && openings.isLedTo();
    }
  }
}
