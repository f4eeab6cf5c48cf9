import java.util.ArrayList;
import java.util.Arrays;
import java.util.List;
import java.util.TreeSet;

/**
 * Each method by all edges of its parameters, in each combination, on empty, short and full rows:
 * one call on an object of its own, answered by the class and by the {@link Model}; then all NUMBERS
 * are looked at.
 */
public final class GridTest {

  private static final int LEAST = Integer.MIN_VALUE;
  private static final int MOST = Integer.MAX_VALUE;

  private static final String[] EMPTY = {};
  private static final String[] SHORT = {
    "pattern 0 2 5 10 1 1", "make 1 3", "set 1 0 -2147483648", "set 1 2 2147483647", "make 2 1",
    "set 2 0 -1", "pattern 3 1 6 126 1 3", "keep 0", "keepPart 1 1 5", "keep 4", "fill 0 7", "knock"
  };
  private static final String[] NEARLY_FULL = {
    "make 0 299", "pattern 1 0 299 -9 1 1", "pattern 2 0 300 0 3 1", "pattern 3 1 41 0 3 5",
    "pattern 4 0 40 9 -1 1", "keepPart 0 0 1", "keepPart 0 0 2", "keep 1", "keep 4", "keepPart 2 0 0"
  };
  private static final String[] FULL = {
    "pattern 0 5 300 3 1 9", "pattern 1 5 300 4 1 9", "pattern 2 5 300 5 1 9",
    "pattern 3 5 300 6 1 9", "pattern 4 3 300 7 1 9", "keep 0", "keep 1", "keep 2", "keep 3",
    "keep 4", "keep 0", "sortShelf 5", "sort 4"
  };

  /** The parameters of each method, a letter each: see edges. */
  private static final String METHODS =
      """
      make:Kn pattern:kPmabc set:Kpv swap:Kpp fill:Kv fillPart:Kftu resize:Kn cut:Kft
      turn:Kft roll:Kn pour:KK sort:K sortPart:Kft sortPieces:Kn insert:Kv drop:Kv thin:K
      keep:K keepPart:Kft layBack:S sortShelf:S merge:S throwAway:S knock: ofRow:Kw at:Kp
      text:Kft find:Kv findPart:Kftu count:Kv ofShelf:Sw onShelf:Sp unlike:S house:w
      nth:Kp ordered:Kft top:Kn wouldFind:Kv would:Kw mode:K shared:Sw isSound: digest:
      """;

  private static final TreeSet<String> METHODS_MET = new TreeSet<>();
  private static int calls = 0;
  private static int wrong = 0;

  public static void main(String[] args) {
    for (String[] state : new String[][] {EMPTY, SHORT, NEARLY_FULL, FULL}) {
      for (String method : METHODS.strip().split("\\s+")) {
        int end = method.indexOf(':');
        String name = method.substring(0, end);
        METHODS_MET.add(name);
        // Six parameters make many calls; one state is enough, as a pattern leaves nothing of it.
        if (!name.equals("pattern") || state == SHORT) {
          walk(state, name, method.substring(end + 1), new int[0]);
        }
      }
    }
    if (!METHODS_MET.equals(Calls.names())) {
      wrong++;
      System.out.println("the methods are " + Calls.names() + ", met were " + METHODS_MET);
    }
    System.out.println(calls + " calls, " + wrong + " of them not as the model");
    if (wrong != 0) {
      System.exit(1);
    }
  }

  private static void walk(String[] state, String name, String parameters, int[] values) {
    if (wrong >= 20) {
      return;
    }
    if (values.length == parameters.length()) {
      call(state, name, values);
      return;
    }
    for (int value : edges(state, parameters.charAt(values.length), values)) {
      int[] more = Arrays.copyOf(values, values.length + 1);
      more[values.length] = value;
      walk(state, name, parameters, more);
    }
  }

  private static Iterable<Integer> edges(String[] state, char parameter, int[] values) {
    switch (parameter) {
      case 'K':
        return List.of(LEAST, -1, 0, 1, 2, 3, 4, 5, MOST);
      case 'k':
        return List.of(-1, 0, 3, 5);
      case 'S':
        return List.of(LEAST, -1, 0, 1, 2, 3, 4, 5, 6, MOST);
      case 'w':
        return List.of(LEAST, -1, 0, 1, 2, 3, 4, 5, MOST);
      case 'n':
        return List.of(LEAST, -2, -1, 0, 1, 2, 5, 39, 40, 41, 299, 300, 301, MOST);
      case 'v':
        return List.of(LEAST, -65537, -32769, -32768, -129, -128, -1, 0, 1, 7, 11, 12, 127, 128, 255,
            256, 300, 32767, 32768, 65535, 65536, MOST);
      case 'u':
        return List.of(-129, 0, 65546);
      case 'p':
        return places(state, values);
      case 'P':
        return List.of(-1, 0, 1, 2, 3, 4, 5, 6, 7);
      case 'm':
        return List.of(-1, 0, 1, 2, 41, 300, 301);
      case 'a':
        return List.of(-100001, -100000, -1, 126, 100000, 100001);
      case 'b':
        return List.of(-1001, -1000, 1, 1000, 1001);
      case 'c':
        return List.of(-1, 0, 1, 2, 3, 100, 101);
      default:
        return bounds(state, parameter == 't', values);
    }
  }

  private static int sizeOf(String[] state, int kind) {
    int size = 0;
    for (String call : state) {
      String[] words = call.split(" ");
      if (words[0].equals("make") && words[1].equals("" + kind)) {
        size = Integer.parseInt(words[2]);
      }
      if (words[0].equals("pattern") && words[1].equals("" + kind)) {
        size = Integer.parseInt(words[3]);
      }
    }
    return size;
  }

  private static Iterable<Integer> places(String[] state, int[] values) {
    int size = sizeOf(state, values[0]);
    return new TreeSet<>(
        List.of(LEAST, -1, 0, 1, 2, 4, size - 1, size, size + 1, 298, 299, 300, MOST));
  }

  private static Iterable<Integer> bounds(String[] state, boolean isTo, int[] values) {
    int size = sizeOf(state, values[0]);
    TreeSet<Integer> bounds = new TreeSet<>(List.of(-1, 0, 1, 400, 401));
    for (int bound : new int[] {size - 1, size, size + 1}) {
      bounds.add(bound);
      if (!isTo) {
        bounds.add(bound - 40);
      }
    }
    if (isTo) {
      int from = values[1];
      bounds.addAll(List.of(from - 1, from, from + 1, from + 40, from + 41, from + 300, from + 301));
      bounds.addAll(List.of(LEAST, MOST));
    }
    return bounds;
  }

  private static void call(String[] state, String name, int[] values) {
    Rowsorter x = new Rowsorter();
    Model model = new Model();
    for (String line : state) {
      String[] words = line.split(" ");
      int[] setUp = new int[words.length - 1];
      for (int i = 0; i < setUp.length; i++) {
        setUp[i] = Integer.parseInt(words[i + 1]);
      }
      Calls.answer(x, words[0], setUp);
      model.answer(words[0], setUp);
    }
    calls++;
    Object got = Calls.answer(x, name, values);
    Object due = model.answer(name, values);
    if (!got.equals(due)) {
      report(state, name, values, got, due);
    } else if (!numbersOf(x).equals(numbersOf(model))) {
      report(state, name, values, numbersOf(x), numbersOf(model));
    }
  }

  /** What lies on the SHELVES is laid back to be read: one call tells 40 of them. */
  private static List<String> numbersOf(Rowsorter x) {
    List<String> numbers = new ArrayList<>();
    for (int kind = 0; kind <= 4; kind++) {
      numbers.add(rowOf(x, kind));
    }
    int shelves = x.house(0);
    for (int shelf = 0; shelf < shelves; shelf++) {
      int kind = x.layBack(shelf);
      numbers.add(kind + ": " + rowOf(x, kind));
    }
    numbers.add("knocks: " + x.house(4));
    return numbers;
  }

  private static String rowOf(Rowsorter x, int kind) {
    StringBuilder row = new StringBuilder();
    int size = x.ofRow(kind, 0);
    for (int from = 0; from < size; from += 40) {
      row.append(x.text(kind, from, Math.min(from + 40, size))).append(',');
    }
    return row.toString();
  }

  private static List<String> numbersOf(Model model) {
    List<String> numbers = new ArrayList<>();
    for (List<Long> row : model.rows) {
      numbers.add(told(row));
    }
    for (int shelf = 0; shelf < model.shelves.size(); shelf++) {
      numbers.add(model.kinds.get(shelf) + ": " + told(model.shelves.get(shelf)));
    }
    numbers.add("knocks: " + model.knocks);
    return numbers;
  }

  private static String told(List<Long> row) {
    StringBuilder line = new StringBuilder();
    for (long number : row) {
      line.append(number).append(',');
    }
    return line.toString();
  }

  private static void report(String[] state, String name, int[] values, Object got, Object due) {
    wrong++;
    System.out.println("after " + List.of(state) + ": " + Calls.told(name, values) + " answered "
        + got + ", the model says " + due);
  }
}
