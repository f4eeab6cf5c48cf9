import java.util.ArrayList;
import java.util.List;
import java.util.Set;

/**
 * Scripts of calls with the answers that the document asks for.
 *
 * <p>A script runs on a new object, a call a line: {@code make(0, 5) -> 0}. An answer that is the
 * name of an exception means that the call throws just that one. Where a call may change nothing
 * (what only asks, an exception, a fault that is told by a number), that is looked at, too.
 */
final class Script {

  private static final Set<String> ASKING =
      Set.of("ofRow", "at", "text", "find", "findPart", "count", "ofShelf", "onShelf", "unlike",
          "house", "nth", "ordered", "top", "wouldFind", "would", "mode", "shared", "isSound",
          "digest");
  private static final Set<String> TELLING_FAULTS =
      Set.of("fillPart", "resize", "cut", "sortPart", "keepPart", "drop");

  private static int wrong = 0;
  private static int calls = 0;

  private Script() {}

  static void run(String name, String lines) {
    List<String> script = linesOf(lines);
    Rowsorter x = new Rowsorter();
    for (int i = 0; i < script.size(); i++) {
      String call = callOf(script.get(i));
      String due = script.get(i).substring(call.length() + " -> ".length());
      String got = answer(x, call);
      demand(name, call, got, due);
      if (mayChangeNothing(call, got)) {
        String before = stateOf(replay(script, i));
        demand(name, call + " changed", stateOf(replay(script, i + 1)), before);
      }
    }
  }

  /** A new object after all calls of a script. */
  static Rowsorter after(String lines) {
    List<String> script = linesOf(lines);
    return replay(script, script.size());
  }

  static void demand(String name, String call, Object got, Object due) {
    calls++;
    if (!got.equals(due)) {
      wrong++;
      System.out.println(name + ": " + call + " answered " + got + ", due is " + due);
    }
  }

  /** To be called last: the program ends with 1 if an answer was not the one that is due. */
  static void end() {
    System.out.println(calls + " answers, " + wrong + " of them not as due");
    if (wrong != 0 || calls == 0) {
      System.exit(1);
    }
  }

  private static boolean mayChangeNothing(String call, String got) {
    String name = call.substring(0, call.indexOf('('));
    return ASKING.contains(name)
        || got.endsWith("Exception")
        || TELLING_FAULTS.contains(name) && got.startsWith("-");
  }

  /** A new object after the first calls of a script: no object lives longer than the document says. */
  private static Rowsorter replay(List<String> script, int many) {
    Rowsorter x = new Rowsorter();
    for (int i = 0; i < many; i++) {
      answer(x, callOf(script.get(i)));
    }
    return x;
  }

  /**
   * All NUMBERS of an object and what else can be told of it. The object is worth nothing then: what
   * lies on the SHELVES is laid back to be read, so that few calls are enough, even of the longest.
   */
  static String stateOf(Rowsorter x) {
    StringBuilder state = new StringBuilder();
    state.append(x.digest());
    for (int what = 0; what <= 4; what++) {
      state.append(' ').append(x.house(what));
    }
    for (int kind = 0; kind <= 4; kind++) {
      state.append("\nrow ").append(kind).append(':');
      addRow(state, x, kind);
    }
    int shelves = x.house(0);
    for (int shelf = 0; shelf < shelves; shelf++) {
      int kind = x.layBack(shelf);
      state.append("\nshelf of ").append(kind).append(':');
      addRow(state, x, kind);
    }
    return state.toString();
  }

  private static void addRow(StringBuilder state, Rowsorter x, int kind) {
    int size = x.ofRow(kind, 0);
    for (int from = 0; from < size; from += 40) {
      state.append(' ').append(x.text(kind, from, Math.min(from + 40, size)));
    }
  }

  private static List<String> linesOf(String lines) {
    List<String> script = new ArrayList<>();
    for (String line : lines.split("\n")) {
      if (!line.isBlank()) {
        script.add(line.strip());
      }
    }
    return script;
  }

  private static String callOf(String line) {
    return line.substring(0, line.indexOf(" -> "));
  }

  private static String answer(Rowsorter x, String call) {
    String inside = call.substring(call.indexOf('(') + 1, call.length() - 1);
    String[] words = inside.isEmpty() ? new String[0] : inside.split(", ");
    int[] values = new int[words.length];
    for (int i = 0; i < words.length; i++) {
      values[i] = Integer.parseInt(words[i]);
    }
    Object got = Calls.answer(x, call.substring(0, call.indexOf('(')), values);
    if (got instanceof Class) {
      return ((Class<?>) got).getSimpleName();
    }
    return got instanceof String ? "\"" + got + "\"" : String.valueOf(got);
  }
}
