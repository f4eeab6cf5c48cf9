import java.util.Arrays;
import java.util.HashMap;
import java.util.List;
import java.util.Map;

/** Long runs of calls, mixed by a fixed rule, each answered by the class and by the {@link Model}. */
public final class ModelTest {

  private static final int RUNS = 400;
  private static final int CALLS = 512;
  private static final String[] CHANGING = {
    "make", "pattern", "pattern", "pattern", "set", "set", "swap", "fill", "fillPart", "fillPart",
    "resize", "cut", "turn", "roll", "pour", "sort", "sort", "sortPart", "sortPart", "sortPieces",
    "insert", "insert", "drop", "drop", "thin", "keep", "keep", "keepPart", "layBack", "sortShelf",
    "merge", "throwAway", "knock"
  };
  private static final String[] ASKING = {
    "ofRow", "at", "text", "find", "findPart", "count", "ofShelf", "onShelf", "unlike", "house",
    "nth", "ordered", "top", "wouldFind", "would", "mode", "shared", "isSound", "digest"
  };

  private static final Map<String, Integer> ANSWERS = new HashMap<>();
  private static long mixed = 1;
  private static int wrong = 0;

  public static void main(String[] args) {
    for (int run = 1; run <= RUNS && wrong < 10; run++) {
      mixed = run * 7919L;
      run(run);
    }
    demandAnswersOfEach();
    System.out.println(RUNS + " runs of " + CALLS + " calls, " + wrong + " of them not as the model");
    if (wrong != 0) {
      System.exit(1);
    }
  }

  private static void run(int run) {
    Rowsorter x = new Rowsorter();
    Model model = new Model();
    // Short rows meet more edges, long ones more of the order.
    int scale = run % 4 == 0 ? 300 : run % 4 == 1 ? 5 : run % 4 == 2 ? 20 : 60;
    for (int i = 0; i < CALLS && wrong < 10; i++) {
      String name = i % 2 == 0 ? pick(CHANGING) : pick(ASKING);
      if (name.equals("digest") && below(3) > 0) {
        name = "ofRow";
      }
      int[] values = valuesFor(name, model, scale);
      Object got = Calls.answer(x, name, values);
      Object due = model.answer(name, values);
      String key = name + (due instanceof Class ? " throws" : " answers");
      ANSWERS.merge(key, 1, Integer::sum);
      if (!due.equals(got)) {
        wrong++;
        System.out.println("run " + run + ", call " + i + ": " + Calls.told(name, values)
            + " answered " + got + ", the model says " + due);
        return;
      }
    }
    if (x.digest() != (Long) model.answer("digest", new int[0])) {
      wrong++;
      System.out.println("run " + run + ": another digest");
    }
  }

  /** A run that never reaches a method, or only its exceptions, would prove nothing of it. */
  private static void demandAnswersOfEach() {
    for (String name : Calls.names()) {
      if (ANSWERS.getOrDefault(name + " answers", 0) < 100) {
        wrong++;
        System.out.println("too few answers of " + name);
      }
    }
  }

  // ---- the mixing of calls

  private static int below(int bound) {
    mixed = mixed * 6364136223846793005L + 1442695040888963407L;
    return (int) Long.remainderUnsigned(mixed >>> 33, bound);
  }

  private static String pick(String[] names) {
    return names[below(names.length)];
  }

  private static int between(int least, int most) {
    return least + below(most - least + 1);
  }

  /** Mostly within; now and then a step beyond one of both ends. */
  private static int near(int least, int most) {
    int chance = below(40);
    return chance == 0 ? least - 1 : chance == 1 ? most + 1 : between(least, Math.max(least, most));
  }

  private static int kind() {
    return below(60) == 0 ? (below(2) == 0 ? -1 : 5) : below(5);
  }

  private static int shelf(Model model) {
    return near(0, model.shelves.size() - 1);
  }

  private static int value(Model model, int kind) {
    int chance = below(10);
    if (chance < 5 && kind >= 0 && kind < 5 && !model.rows.get(kind).isEmpty()) {
      List<Long> row = model.rows.get(kind);
      return Model.told(kind, row.get(below(row.size()))) + (chance < 3 ? 0 : between(-1, 1));
    }
    int[] edges = {0, 1, -1, 127, 128, -128, -129, 255, 256, 32767, 32768, -32768, -32769, 65535,
        65536, Integer.MAX_VALUE, Integer.MIN_VALUE, 100, -7};
    return chance < 7 ? edges[below(edges.length)] : chance < 9 ? between(-9, 9) : below(1 << 30) * 4;
  }

  private static int bound(int size) {
    int chance = below(50);
    return chance == 0 ? -1 : chance == 1 ? 401 : chance == 2 ? between(0, 400)
        : chance < 10 ? size : chance < 13 ? size + 1 : chance < 16 ? 0 : between(0, size);
  }

  private static int size(int scale) {
    int chance = below(30);
    return chance == 0 ? -1 : chance == 1 ? 301 : chance == 2 ? 300 : chance == 3 ? 0
        : between(0, scale);
  }

  private static int[] part(Model model, int kind, int most) {
    int size = kind >= 0 && kind < 5 ? model.rows.get(kind).size() : 0;
    int from = bound(size);
    int to = bound(size);
    if (from > to && below(4) > 0) {
      return new int[] {kind, to, from};
    }
    return new int[] {kind, from, below(2) == 0 && to - from > most ? from + most : to};
  }

  private static int[] with(int[] values, int last) {
    int[] longer = Arrays.copyOf(values, values.length + 1);
    longer[values.length] = last;
    return longer;
  }

  private static int[] valuesFor(String name, Model model, int scale) {
    int kind = kind();
    int size = kind >= 0 && kind < 5 ? model.rows.get(kind).size() : 0;
    int shelf = shelf(model);
    switch (name) {
      case "make":
        return new int[] {kind, size(scale)};
      case "resize":
        return new int[] {kind, size(scale) - below(20) / 19};
      case "pattern":
        return new int[] {kind, near(0, 6), size(scale),
            below(3) == 0 ? near(-100000, 100000) : between(-20, 300),
            below(3) == 0 ? near(-1000, 1000) : between(-3, 3), near(1, below(2) == 0 ? 100 : 7)};
      case "set":
        return new int[] {kind, near(0, size - 1), value(model, kind)};
      case "swap":
        return new int[] {kind, near(0, size - 1), near(0, size - 1)};
      case "fill":
        return new int[] {kind, below(4) > 0 ? between(0, 3) : value(model, kind)};
      case "insert": case "drop": case "find": case "count": case "wouldFind":
        return new int[] {kind, value(model, kind)};
      case "fillPart": case "findPart":
        return with(part(model, kind, 300), value(model, kind));
      case "cut": case "keepPart": case "turn": case "sortPart":
        return part(model, kind, 300);
      case "text": case "ordered":
        return part(model, kind, 40);
      case "roll":
        return new int[] {kind, below(2) == 0 ? near(0, 300) : near(0, 9)};
      case "pour":
        return new int[] {kind, kind()};
      case "sort": case "thin": case "keep": case "mode":
        return new int[] {kind};
      case "sortPieces":
        return new int[] {kind, below(2) == 0 ? near(1, 300) : near(1, 9)};
      case "layBack": case "sortShelf": case "merge": case "unlike":
        return new int[] {shelf};
      case "throwAway":
        return new int[] {below(2) == 0 ? shelf : -1};
      case "ofRow":
        return new int[] {kind, near(0, 4)};
      case "at": case "nth":
        return new int[] {kind, near(0, size - 1)};
      case "ofShelf": case "shared":
        return new int[] {shelf, near(0, 2)};
      case "onShelf":
        int lying = shelf >= 0 && shelf < model.shelves.size() ? model.shelves.get(shelf).size() : 0;
        return new int[] {shelf, near(0, lying - 1)};
      case "house":
        return new int[] {near(0, 4)};
      case "top":
        return new int[] {kind, near(0, 40)};
      case "would":
        return new int[] {kind, near(0, 3)};
      default:
        return new int[0];
    }
  }
}
