import java.io.DataInputStream;
import java.io.IOException;
import java.io.InputStream;
import java.util.ArrayList;
import java.util.List;
import java.util.Map;
import java.util.Set;
import java.util.TreeMap;
import java.util.TreeSet;

/**
 * The rules of ../shared/LANGUAGE.md that only the compiled class shows: which library it calls (rule 4), that nothing
 * calls itself (rule 8), and that calls go at most eight deep (rule 11).
 */
public final class CallsTest {
  private static final int DEEPEST = 8;

  private static final Set<String> LIBRARY = Set.of("java/lang/Object.<init>", "java/lang/String.length", "java/lang/String.charAt", "java/lang/StringBuilder.<init>",
      "java/lang/StringBuilder.append(C)", "java/lang/StringBuilder.append(I)", "java/lang/StringBuilder.append(Ljava/lang/String;)", "java/lang/StringBuilder.length",
      "java/lang/StringBuilder.charAt", "java/lang/StringBuilder.setLength", "java/lang/StringBuilder.toString", "java/util/Arrays.fill", "java/util/Arrays.copyOf",
      "java/lang/System.arraycopy", "java/lang/Integer.bitCount", "java/lang/Math.max", "java/lang/Math.min", "java/lang/IllegalStateException.<init>",
      "java/lang/IllegalArgumentException.<init>", "java/lang/IndexOutOfBoundsException.<init>");

  /** Each method with what it calls of the class's own. */
  private static final Map<String, Set<String>> CALLS = new TreeMap<>();
  private static final Set<String> FACE = new TreeSet<>();
  private static final Map<String, Integer> DEPTHS = new TreeMap<>();

  /** How long the instructions are, from 0 on; 0 where the length must be reckoned. */
  private static int lengthOf(int op) {
    if (op == 0x10 || op == 0x12 || op >= 0x15 && op <= 0x19 || op >= 0x36 && op <= 0x3a || op == 0xa9 || op == 0xbc) {
      return 2;
    }
    if (op == 0x11 || op == 0x13 || op == 0x14 || op == 0x84 || op >= 0x99 && op <= 0xa8 || op >= 0xb2 && op <= 0xb8 || op == 0xbb || op == 0xbd || op == 0xc0 || op == 0xc1
        || op == 0xc6 || op == 0xc7) {
      return 3;
    }
    if (op == 0xc5) {
      return 4;
    }
    if (op == 0xb9 || op == 0xba || op == 0xc8 || op == 0xc9) {
      return 5;
    }
    return op == 0xaa || op == 0xab || op == 0xc4 ? 0 : 1;
  }

  private static int two(byte[] code, int at) {
    return (code[at] & 255) << 8 | code[at + 1] & 255;
  }

  private static int four(byte[] code, int at) {
    return two(code, at) << 16 | two(code, at + 2);
  }

  private static int skip(byte[] code, int at) {
    int op = code[at] & 255;
    if (lengthOf(op) != 0) {
      return at + lengthOf(op);
    }
    if (op == 0xc4) {
      return at + ((code[at + 1] & 255) == 0x84 ? 6 : 4);
    }
    int aligned = at + 4 - at % 4;
    return op == 0xaa ? aligned + 12 + 4 * (four(code, aligned + 8) - four(code, aligned + 4) + 1) : aligned + 8 + 8 * four(code, aligned + 4);
  }

  private static final class Pool {
    final Object[] entries;

    Pool(DataInputStream in) throws IOException {
      int many = in.readUnsignedShort();
      entries = new Object[many];
      for (int i = 1; i < many; i++) {
        int tag = in.readUnsignedByte();
        switch (tag) {
          case 1: entries[i] = in.readUTF(); break;
          case 3: case 4: in.readInt(); break;
          case 5: case 6: in.readLong(); i++; break;
          case 7: case 8: case 16: entries[i] = new int[] {in.readUnsignedShort()}; break;
          case 15: in.readUnsignedByte(); in.readUnsignedShort(); break;
          default: entries[i] = new int[] {in.readUnsignedShort(), in.readUnsignedShort()}; break;
        }
      }
    }

    String text(int i) {
      return (String) entries[i];
    }

    int[] pair(int i) {
      return (int[]) entries[i];
    }

    String method(int i) {
      String owner = text(pair(pair(i)[0])[0]);
      int[] named = pair(pair(i)[1]);
      return owner + "." + text(named[0]) + (owner.endsWith("StringBuilder") && text(named[0]).equals("append") ? text(named[1]).replaceAll("\\).*", ")") : "");
    }
  }

  private static void read(String name) throws IOException {
    try (InputStream raw = CallsTest.class.getResourceAsStream(name + ".class"); DataInputStream in = new DataInputStream(raw)) {
      in.readInt();
      in.readInt();
      Pool pool = new Pool(in);
      in.readUnsignedShort();
      in.readUnsignedShort();
      in.readUnsignedShort();
      in.skipBytes(2 * in.readUnsignedShort());
      members(in, pool, null);
      members(in, pool, name);
    }
  }

  private static void members(DataInputStream in, Pool pool, String owner) throws IOException {
    int many = in.readUnsignedShort();
    for (int i = 0; i < many; i++) {
      int access = in.readUnsignedShort();
      String method = owner + "." + pool.text(in.readUnsignedShort());
      in.readUnsignedShort();
      int attributes = in.readUnsignedShort();
      for (int k = 0; k < attributes; k++) {
        String attribute = pool.text(in.readUnsignedShort());
        byte[] bytes = new byte[in.readInt()];
        in.readFully(bytes);
        if (owner != null && attribute.equals("Code")) {
          look(method, bytes, pool);
        }
      }
      if (owner != null && owner.equals("Pagekernel") && (access & 1) == 1) {
        FACE.add(method);
      }
    }
  }

  private static void look(String method, byte[] bytes, Pool pool) {
    Set<String> called = CALLS.computeIfAbsent(method, key -> new TreeSet<>());
    int end = 8 + four(bytes, 4);
    byte[] code = java.util.Arrays.copyOfRange(bytes, 8, end);
    for (int at = 0; at < code.length; at = skip(code, at)) {
      int op = code[at] & 255;
      if (op == 0xba) {
        Checks.due("invokedynamic in " + method, "there", "not there");
      }
      if (op >= 0xb6 && op <= 0xb9) {
        String callee = pool.method(two(code, at + 1));
        if (callee.startsWith("Pagekernel")) {
          called.add(callee);
        } else {
          Checks.due("library in " + method + ": " + callee, LIBRARY.contains(callee), true);
        }
      }
    }
    int handlers = two(bytes, end);
    Checks.due("try in " + method, handlers, 0);
  }

  private static int depthOf(String method, List<String> path) {
    if (path.contains(method)) {
      Checks.due("recursion", path + " " + method, "none");
      return 0;
    }
    if (DEPTHS.containsKey(method)) {
      return DEPTHS.get(method);
    }
    path.add(method);
    int deepest = 0;
    for (String callee : CALLS.getOrDefault(method, Set.of())) {
      deepest = Math.max(deepest, depthOf(callee, path));
    }
    path.remove(path.size() - 1);
    DEPTHS.put(method, deepest + 1);
    return deepest + 1;
  }

  public static void main(String[] arguments) throws IOException {
    read("Pagekernel");
    for (Class<?> inside : Pagekernel.class.getDeclaredClasses()) {
      read(inside.getName());
    }
    Checks.due("methods were found", CALLS.size() > 200, true);
    Checks.due("the face was found", FACE.size(), 48);
    for (String method : FACE) {
      int depth = depthOf(method, new ArrayList<>());
      Checks.due("calls of " + method + " go " + depth + " deep", depth <= DEEPEST, true);
    }
    Checks.end();
  }
}
