import java.lang.reflect.InvocationTargetException;
import java.lang.reflect.Method;
import java.util.ArrayList;
import java.util.Collections;
import java.util.HashMap;
import java.util.HashSet;
import java.util.List;
import java.util.Map;

/**
 * Long runs of calls, mixed by a fixed rule, each answered by the class and by a slow model of the
 * document that is written in another way: lists of the whole NUMBERS, and the library's own sort.
 */
public final class ModelTest {

  private static final int RUNS = 400;
  private static final int CALLS = 512;
  private static final String[] CHANGING = {
    "make", "pattern", "pattern", "pattern", "set", "set", "swap", "fill", "fillPart", "fillPart",
    "resize", "cut", "turn", "roll", "pour", "sort", "sort", "sortPart", "sortPart", "sortPieces",
    "insert", "insert", "drop", "drop", "thin", "keep", "keep", "keepPart", "layBack", "sortShelf",
    "merge", "throwAway", "knock"
  };
  private static final String[] ASKING = {
    "ofRow", "at", "text", "find", "findPart", "count", "ofShelf", "onShelf", "unlike", "house",
    "nth", "ordered", "top", "wouldFind", "would", "mode", "shared", "isSound", "digest"
  };

  private static final Map<String, Method> METHODS = new HashMap<>();
  private static final Map<String, Integer> ANSWERS = new HashMap<>();
  private static long mixed = 1;
  private static int wrong = 0;

  public static void main(String[] args) {
    for (Method method : Rowsorter.class.getMethods()) {
      METHODS.put(method.getName(), method);
    }
    for (int run = 1; run <= RUNS && wrong < 10; run++) {
      mixed = run * 7919L;
      run(run);
    }
    demandAnswersOfEach();
    System.out.println(RUNS + " runs of " + CALLS + " calls, " + wrong + " of them not as the model");
    if (wrong != 0) {
      System.exit(1);
    }
  }

  private static void run(int run) {
    Rowsorter x = new Rowsorter();
    Model model = new Model();
    // Short rows meet more edges, long ones more of the order.
    int scale = run % 4 == 0 ? 300 : run % 4 == 1 ? 5 : run % 4 == 2 ? 20 : 60;
    for (int i = 0; i < CALLS && wrong < 10; i++) {
      String name = i % 2 == 0 ? pick(CHANGING) : pick(ASKING);
      if (name.equals("digest") && below(3) > 0) {
        name = "ofRow";
      }
      int[] values = valuesFor(name, model, scale);
      Object got = answer(x, name, values);
      Object due = model.answer(name, values);
      String key = name + (due instanceof Class ? " throws" : " answers");
      ANSWERS.merge(key, 1, Integer::sum);
      if (!due.equals(got)) {
        wrong++;
        System.out.println("run " + run + ", call " + i + ": " + name + told(values) + " answered "
            + got + ", the model says " + due);
        return;
      }
    }
    if (x.digest() != (Long) model.answer("digest", new int[0])) {
      wrong++;
      System.out.println("run " + run + ": another digest");
    }
  }

  /** A run that never reaches a method, or only its exceptions, would prove nothing of it. */
  private static void demandAnswersOfEach() {
    for (String name : METHODS.keySet()) {
      boolean isOfFace = METHODS.get(name).getDeclaringClass() == Rowsorter.class;
      if (isOfFace && ANSWERS.getOrDefault(name + " answers", 0) < 100) {
        wrong++;
        System.out.println("too few answers of " + name);
      }
    }
  }

  private static Object answer(Rowsorter x, String name, int[] values) {
    Object[] boxed = new Object[values.length];
    for (int i = 0; i < values.length; i++) {
      boxed[i] = values[i];
    }
    try {
      return METHODS.get(name).invoke(x, boxed);
    } catch (InvocationTargetException e) {
      return e.getCause().getClass();
    } catch (IllegalAccessException e) {
      return "no access";
    }
  }

  private static String told(int[] values) {
    StringBuilder line = new StringBuilder("(");
    for (int i = 0; i < values.length; i++) {
      line.append(i > 0 ? ", " : "").append(values[i]);
    }
    return line.append(')').toString();
  }

  // ---- the mixing of calls

  private static int below(int bound) {
    mixed = mixed * 6364136223846793005L + 1442695040888963407L;
    return (int) Long.remainderUnsigned(mixed >>> 33, bound);
  }

  private static String pick(String[] names) {
    return names[below(names.length)];
  }

  private static int between(int least, int most) {
    return least + below(most - least + 1);
  }

  /** Mostly within; now and then a step beyond one of both ends. */
  private static int near(int least, int most) {
    int chance = below(40);
    return chance == 0 ? least - 1 : chance == 1 ? most + 1 : between(least, Math.max(least, most));
  }

  private static int kind() {
    return below(60) == 0 ? (below(2) == 0 ? -1 : 5) : below(5);
  }

  private static int shelf(Model model) {
    return near(0, model.shelves.size() - 1);
  }

  private static int value(Model model, int kind) {
    int chance = below(10);
    if (chance < 5 && kind >= 0 && kind < 5 && !model.rows.get(kind).isEmpty()) {
      List<Long> row = model.rows.get(kind);
      return Model.told(kind, row.get(below(row.size()))) + (chance < 3 ? 0 : between(-1, 1));
    }
    int[] edges = {0, 1, -1, 127, 128, -128, -129, 255, 256, 32767, 32768, -32768, -32769, 65535,
        65536, Integer.MAX_VALUE, Integer.MIN_VALUE, 100, -7};
    return chance < 7 ? edges[below(edges.length)] : chance < 9 ? between(-9, 9) : below(1 << 30) * 4;
  }

  private static int bound(int size) {
    int chance = below(50);
    return chance == 0 ? -1 : chance == 1 ? 401 : chance == 2 ? between(0, 400)
        : chance < 10 ? size : chance < 13 ? size + 1 : chance < 16 ? 0 : between(0, size);
  }

  private static int size(int scale) {
    int chance = below(30);
    return chance == 0 ? -1 : chance == 1 ? 301 : chance == 2 ? 300 : chance == 3 ? 0
        : between(0, scale);
  }

  private static int[] part(Model model, int kind, int most) {
    int size = kind >= 0 && kind < 5 ? model.rows.get(kind).size() : 0;
    int from = bound(size);
    int to = bound(size);
    if (from > to && below(4) > 0) {
      return new int[] {kind, to, from};
    }
    return new int[] {kind, from, below(2) == 0 && to - from > most ? from + most : to};
  }

  private static int[] with(int[] values, int last) {
    int[] longer = java.util.Arrays.copyOf(values, values.length + 1);
    longer[values.length] = last;
    return longer;
  }

  private static int[] valuesFor(String name, Model model, int scale) {
    int kind = kind();
    int size = kind >= 0 && kind < 5 ? model.rows.get(kind).size() : 0;
    int shelf = shelf(model);
    switch (name) {
      case "make":
        return new int[] {kind, size(scale)};
      case "resize":
        return new int[] {kind, size(scale) - below(20) / 19};
      case "pattern":
        return new int[] {kind, near(0, 6), size(scale),
            below(3) == 0 ? near(-100000, 100000) : between(-20, 300),
            below(3) == 0 ? near(-1000, 1000) : between(-3, 3), near(1, below(2) == 0 ? 100 : 7)};
      case "set":
        return new int[] {kind, near(0, size - 1), value(model, kind)};
      case "swap":
        return new int[] {kind, near(0, size - 1), near(0, size - 1)};
      case "fill":
        return new int[] {kind, below(4) > 0 ? between(0, 3) : value(model, kind)};
      case "insert": case "drop": case "find": case "count": case "wouldFind":
        return new int[] {kind, value(model, kind)};
      case "fillPart": case "findPart":
        return with(part(model, kind, 300), value(model, kind));
      case "cut": case "keepPart": case "turn": case "sortPart":
        return part(model, kind, 300);
      case "text": case "ordered":
        return part(model, kind, 40);
      case "roll":
        return new int[] {kind, below(2) == 0 ? near(0, 300) : near(0, 9)};
      case "pour":
        return new int[] {kind, kind()};
      case "sort": case "thin": case "keep": case "mode":
        return new int[] {kind};
      case "sortPieces":
        return new int[] {kind, below(2) == 0 ? near(1, 300) : near(1, 9)};
      case "layBack": case "sortShelf": case "merge": case "unlike":
        return new int[] {shelf};
      case "throwAway":
        return new int[] {below(2) == 0 ? shelf : -1};
      case "ofRow":
        return new int[] {kind, near(0, 4)};
      case "at": case "nth":
        return new int[] {kind, near(0, size - 1)};
      case "ofShelf": case "shared":
        return new int[] {shelf, near(0, 2)};
      case "onShelf":
        int lying = shelf >= 0 && shelf < model.shelves.size() ? model.shelves.get(shelf).size() : 0;
        return new int[] {shelf, near(0, lying - 1)};
      case "house":
        return new int[] {near(0, 4)};
      case "top":
        return new int[] {kind, near(0, 40)};
      case "would":
        return new int[] {kind, near(0, 3)};
      default:
        return new int[0];
    }
  }

  /** The document, word by word. */
  private static final class Model {
    static final long UNIT = 3000000019L;
    final List<List<Long>> rows = new ArrayList<>();
    final List<List<Long>> shelves = new ArrayList<>();
    final List<Integer> kinds = new ArrayList<>();
    int knocks = 0;

    Model() {
      for (int kind = 0; kind < 5; kind++) {
        rows.add(new ArrayList<>());
      }
    }

    Object answer(String name, int[] v) {
      try {
        return name.equals("text") || name.equals("ordered") || name.equals("top")
            ? textOf(name, v) : name.equals("isSound") ? (Object) true
            : name.equals("digest") ? (Object) digest() : (Object) number(name, v);
      } catch (IndexOutOfBoundsException | IllegalArgumentException | IllegalStateException e) {
        return e.getClass();
      }
    }

    static long turned(int kind, int told) {
      long value = told;
      if (kind == 1) {
        return value * UNIT;
      }
      if (kind == 2) {
        return Math.floorMod(value, 65536L);
      }
      if (kind == 3) {
        return Math.floorMod(value + 128, 256L) - 128;
      }
      return kind == 4 ? Math.floorMod(value + 32768, 65536L) - 32768 : value;
    }

    static int told(int kind, long number) {
      return (int) (kind == 1 ? number / UNIT : number);
    }

    static void index(boolean holds) {
      if (!holds) {
        throw new IndexOutOfBoundsException();
      }
    }

    static void argument(boolean holds) {
      if (!holds) {
        throw new IllegalArgumentException();
      }
    }

    static void state(boolean holds) {
      if (!holds) {
        throw new IllegalStateException();
      }
    }

    static boolean in(int value, int least, int most) {
      return least <= value && value <= most;
    }

    List<Long> row(int kind) {
      index(in(kind, 0, 4));
      return rows.get(kind);
    }

    List<Long> shelf(int shelf) {
      index(in(shelf, 0, shelves.size() - 1));
      return shelves.get(shelf);
    }

    static List<Long> sorted(List<Long> numbers) {
      List<Long> copy = new ArrayList<>(numbers);
      Collections.sort(copy);
      return copy;
    }

    static boolean isSorted(List<Long> numbers) {
      return numbers.equals(sorted(numbers));
    }

    static int differing(List<Long> one, List<Long> other) {
      int differing = 0;
      for (int i = 0; i < one.size(); i++) {
        differing += one.get(i).equals(other.get(i)) ? 0 : 1;
      }
      return differing;
    }

    static int runs(List<Long> row) {
      int runs = 0;
      for (int i = 0; i < row.size(); i++) {
        runs += i == 0 || row.get(i) < row.get(i - 1) ? 1 : 0;
      }
      return runs;
    }

    static int search(List<Long> row, int from, int to, long number) {
      int smaller = 0;
      for (int i = from; i < to; i++) {
        if (row.get(i) == number) {
          return i;
        }
        smaller += row.get(i) < number ? 1 : 0;
      }
      return -1 - (from + smaller);
    }

    static List<Long> extended(List<Long> row, int from, int to) {
      List<Long> part = new ArrayList<>();
      for (int i = from; i < to; i++) {
        part.add(i < row.size() ? row.get(i) : 0L);
      }
      return part;
    }

    static void replace(List<Long> row, List<Long> by) {
      List<Long> copy = new ArrayList<>(by);
      row.clear();
      row.addAll(copy);
    }

    static int fault(List<Long> row, int from, int to) {
      argument(in(from, 0, 400) && in(to, 0, 400));
      argument(!(from > to && to > row.size()));
      return from > to ? -9 : to > row.size() ? -8 : 0;
    }

    static int faultOfCopy(List<Long> row, int from, int to) {
      argument(in(from, 0, 400) && in(to, 0, 400));
      argument(to - from <= 300);
      argument(!(from > to && from > row.size()));
      return from > to ? -9 : from > row.size() ? -8 : 0;
    }

    String textOf(String name, int[] v) {
      List<Long> row = row(v[0]);
      List<Long> part;
      if (name.equals("top")) {
        argument(in(v[1], 0, 40));
        List<Long> falling = sorted(row);
        Collections.reverse(falling);
        part = falling.subList(0, Math.min(v[1], row.size()));
      } else {
        argument(in(v[1], 0, 400) && in(v[2], 0, 400) && v[2] - v[1] <= 40);
        argument(v[1] <= v[2] && v[2] <= row.size());
        part = (name.equals("text") ? row : sorted(row)).subList(v[1], v[2]);
      }
      List<String> words = new ArrayList<>();
      for (long number : part) {
        words.add(Long.toString(number));
      }
      return String.join(",", words);
    }

    int number(String name, int[] v) {
      switch (name) {
        case "knock":
          return ++knocks;
        case "house":
          return house(v[0]);
        case "layBack": case "sortShelf": case "merge": case "throwAway": case "ofShelf":
        case "onShelf": case "unlike": case "shared":
          return numberOfShelf(name, v);
        case "ofRow": case "at": case "find": case "findPart": case "count": case "nth":
        case "wouldFind": case "would": case "mode":
          return asked(name, v, row(v[0]));
        case "keep": case "keepPart":
          return kept(name, v, row(v[0]));
        default:
          return changed(name, v, row(v[0]));
      }
    }

    int house(int what) {
      argument(in(what, 0, 4));
      int[] facts = {shelves.size(), 0, 0, 0, knocks};
      for (List<Long> row : rows) {
        facts[1] += row.size();
        facts[3] += !row.isEmpty() && isSorted(row) ? 1 : 0;
      }
      for (List<Long> shelf : shelves) {
        facts[2] += shelf.size();
      }
      return facts[what];
    }

    int kept(String name, int[] v, List<Long> row) {
      int from = name.equals("keep") ? 0 : v[1];
      int to = name.equals("keep") ? row.size() : v[2];
      int fault = faultOfCopy(row, from, to);
      state(shelves.size() < 6);
      if (fault == 0) {
        shelves.add(extended(row, from, to));
        kinds.add(v[0]);
      }
      return fault == 0 ? shelves.size() - 1 : fault;
    }

    int changed(String name, int[] v, List<Long> row) {
      int kind = v[0];
      List<Long> before = new ArrayList<>(row);
      int size = row.size();
      switch (name) {
        case "make":
          argument(in(v[1], 0, 300));
          replace(row, Collections.nCopies(v[1], 0L));
          return size;
        case "pattern":
          argument(in(v[1], 0, 6) && in(v[2], 0, 300) && in(v[3], -100000, 100000));
          argument(in(v[4], -1000, 1000) && in(v[5], 1, 100));
          replace(row, pattern(kind, v[1], v[2], v[3], v[4], v[5]));
          return runs(row);
        case "set":
          index(in(v[1], 0, size - 1));
          return told(kind, row.set(v[1], turned(kind, v[2])));
        case "swap":
          index(in(v[1], 0, size - 1) && in(v[2], 0, size - 1));
          Collections.swap(row, v[1], v[2]);
          return runs(row);
        case "fill":
          Collections.fill(row, turned(kind, v[1]));
          return differing(before, row);
        case "fillPart": {
          int fault = fault(row, v[1], v[2]);
          if (fault == 0) {
            Collections.fill(row.subList(v[1], v[2]), turned(kind, v[3]));
          }
          return fault == 0 ? differing(before, row) : fault;
        }
        case "resize":
          argument(in(v[1], -1, 300));
          if (v[1] == -1) {
            return -9;
          }
          replace(row, extended(row, 0, v[1]));
          return size;
        case "cut": {
          int fault = faultOfCopy(row, v[1], v[2]);
          if (fault == 0) {
            replace(row, extended(row, v[1], v[2]));
          }
          return fault == 0 ? row.size() : fault;
        }
        case "turn":
          argument(in(v[1], 0, 400) && in(v[2], 0, 400) && v[1] <= v[2] && v[2] <= size);
          Collections.reverse(row.subList(v[1], v[2]));
          return runs(row);
        case "roll":
          argument(in(v[1], 0, 300));
          for (int i = 0; i < size; i++) {
            row.set((i + v[1]) % size, before.get(i));
          }
          return runs(row);
        case "pour": {
          List<Long> other = row(v[1]);
          argument(v[0] != v[1]);
          other.clear();
          for (long number : row) {
            other.add(turned(v[1], told(kind, number)));
          }
          return other.size();
        }
        default:
          return putInOrder(name, v, row, before);
      }
    }

    List<Long> pattern(int kind, int which, int n, int a, int b, int c) {
      List<Long> made = new ArrayList<>();
      int x = Math.floorMod(a, 65537);
      for (int k = 0; k < n; k++) {
        int m = k / c;
        int r = k % c;
        int[] ints = {a + b * k, a + b * r, a + b * Math.min(k, n - 1 - k),
            a + b * ((7 * k + k / 3) % c), a + b * k, b + c * (x - 32768),
            m % 2 == 0 ? a + m + b * r : a + m + b * (c - 1 - r)};
        made.add(turned(kind, ints[which]));
        x = (75 * x + 74) % 65537;
      }
      for (int many = 1; which == 4 && many * c < n; many++) {
        Collections.swap(made, many * c - 1, many * c);
      }
      return made;
    }

    int putInOrder(String name, int[] v, List<Long> row, List<Long> before) {
      switch (name) {
        case "sort":
          Collections.sort(row);
          return differing(before, row);
        case "sortPart": {
          int fault = fault(row, v[1], v[2]);
          if (fault == 0) {
            Collections.sort(row.subList(v[1], v[2]));
          }
          return fault == 0 ? differing(before, row) : fault;
        }
        case "sortPieces": {
          argument(in(v[1], 1, 300));
          int parts = 0;
          while (parts * v[1] < row.size()) {
            Collections.sort(row.subList(parts * v[1], Math.min(row.size(), (parts + 1) * v[1])));
            parts++;
          }
          return parts;
        }
        case "insert": {
          state(isSorted(row));
          state(row.size() < 300);
          row.add(turned(v[0], v[1]));
          Collections.sort(row);
          return row.indexOf(turned(v[0], v[1]));
        }
        case "drop": {
          state(isSorted(row));
          int found = search(row, 0, row.size(), turned(v[0], v[1]));
          row.remove(turned(v[0], v[1]));
          return found;
        }
        default:
          state(isSorted(row));
          replace(row, sorted(new ArrayList<>(new HashSet<>(row))));
          return before.size() - row.size();
      }
    }

    int numberOfShelf(String name, int[] v) {
      List<Long> shelf = shelf(v[0]);
      int kind = kinds.get(v[0]);
      List<Long> row = rows.get(kind);
      switch (name) {
        case "layBack":
          replace(row, shelf);
          return kind;
        case "sortShelf": {
          List<Long> before = new ArrayList<>(shelf);
          Collections.sort(shelf);
          return differing(before, shelf);
        }
        case "merge":
          state(row.size() + shelf.size() <= 300);
          row.addAll(shelf);
          Collections.sort(row);
          return row.size();
        case "throwAway":
          shelves.remove(v[0]);
          kinds.remove(v[0]);
          return shelves.size();
        case "ofShelf":
          argument(in(v[1], 0, 2));
          return v[1] == 0 ? kind : v[1] == 1 ? shelf.size() : isSorted(shelf) ? 1 : 0;
        case "onShelf":
          index(in(v[1], 0, shelf.size() - 1));
          return told(kind, shelf.get(v[1]));
        case "unlike":
          for (int i = 0; i < Math.max(row.size(), shelf.size()); i++) {
            if (i >= row.size() || i >= shelf.size() || !row.get(i).equals(shelf.get(i))) {
              return i;
            }
          }
          return -1;
        default:
          argument(in(v[1], 0, 2));
          return shared(row, shelf, v[1]);
      }
    }

    static int shared(List<Long> row, List<Long> shelf, int what) {
      if (what == 0) {
        return sorted(row).equals(sorted(shelf)) ? 1 : 0;
      }
      if (what == 2) {
        HashSet<Long> missing = new HashSet<>(row);
        missing.removeAll(new HashSet<>(shelf));
        return missing.size();
      }
      int common = 0;
      for (long number : new HashSet<>(row)) {
        common += Math.min(Collections.frequency(row, number), Collections.frequency(shelf, number));
      }
      return common;
    }

    int asked(String name, int[] v, List<Long> row) {
      int kind = v[0];
      int size = row.size();
      switch (name) {
        case "ofRow":
          argument(in(v[1], 0, 4));
          return ofRow(row, v[1]);
        case "at":
          index(in(v[1], 0, size - 1));
          return told(kind, row.get(v[1]));
        case "find":
          state(isSorted(row));
          return search(row, 0, size, turned(kind, v[1]));
        case "findPart": {
          int fault = fault(row, v[1], v[2]);
          if (fault != 0) {
            return fault == -9 ? -1009 : -1008;
          }
          state(isSorted(row.subList(v[1], v[2])));
          return search(row, v[1], v[2], turned(kind, v[3]));
        }
        case "count":
          return Collections.frequency(row, turned(kind, v[1]));
        case "nth":
          index(in(v[1], 0, size - 1));
          return told(kind, sorted(row).get(v[1]));
        case "wouldFind":
          return search(sorted(row), 0, size, turned(kind, v[1]));
        case "would":
          argument(in(v[1], 0, 3));
          return would(kind, row, v[1]);
        default:
          state(size > 0);
          return told(kind, mode(row));
      }
    }

    static int ofRow(List<Long> row, int what) {
      int ahead = row.size();
      int pairs = 0;
      for (int i = row.size() - 1; i >= 0; i--) {
        ahead = i > 0 && row.get(i) < row.get(i - 1) ? i : ahead;
        for (int j = i + 1; j < row.size(); j++) {
          pairs += row.get(i) > row.get(j) ? 1 : 0;
        }
      }
      return new int[] {row.size(), isSorted(row) ? 1 : 0, runs(row), ahead, pairs}[what];
    }

    static long mode(List<Long> row) {
      long mode = 0;
      int most = 0;
      for (long number : sorted(row)) {
        int often = Collections.frequency(row, number);
        mode = often > most ? number : mode;
        most = Math.max(often, most);
      }
      return mode;
    }

    static int would(int kind, List<Long> row, int what) {
      List<Long> sorted = sorted(row);
      long step = row.size() < 2 ? -1 : Integer.MAX_VALUE;
      for (int i = 1; i < row.size(); i++) {
        step = Math.min(step, (long) told(kind, sorted.get(i)) - told(kind, sorted.get(i - 1)));
      }
      int often = row.isEmpty() ? 0 : Collections.frequency(row, mode(row));
      return new int[] {differing(row, sorted), new HashSet<>(row).size(), often, (int) step}[what];
    }

    long digest() {
      List<Integer> all = new ArrayList<>();
      for (int what = 0; what <= 4; what++) {
        all.add(house(what));
      }
      for (int kind = 0; kind < 5; kind++) {
        List<Long> row = rows.get(kind);
        for (int what = 0; what <= 3; what++) {
          all.add(ofRow(row, what));
        }
        for (long number : row) {
          all.add(told(kind, number));
        }
        for (int what = 0; what <= 3; what++) {
          all.add(would(kind, row, what));
        }
        if (!row.isEmpty()) {
          all.add(told(kind, sorted(row).get(0)));
          all.add(told(kind, sorted(row).get(row.size() / 2)));
          all.add(told(kind, sorted(row).get(row.size() - 1)));
        }
        for (int value : new int[] {-7, 0, 100}) {
          all.add(search(sorted(row), 0, row.size(), turned(kind, value)));
        }
      }
      for (int shelf = 0; shelf < shelves.size(); shelf++) {
        for (int what = 0; what <= 2; what++) {
          all.add(numberOfShelf("ofShelf", new int[] {shelf, what}));
        }
        all.add(numberOfShelf("unlike", new int[] {shelf}));
        for (int what = 0; what <= 2; what++) {
          all.add(numberOfShelf("shared", new int[] {shelf, what}));
        }
      }
      all.add(1);
      long d = 5113;
      for (int v : all) {
        d = d * 31 + v;
      }
      return d;
    }
  }
}
