import java.util.ArrayList;
import java.util.Collections;
import java.util.HashSet;
import java.util.List;

/**
 * The document, word by word, slowly and in another way than the class: lists of the whole NUMBERS,
 * and the library's own sort.
 */
final class Model {
  static final long UNIT = 3000000019L;
  final List<List<Long>> rows = new ArrayList<>();
  final List<List<Long>> shelves = new ArrayList<>();
  final List<Integer> kinds = new ArrayList<>();
  int knocks = 0;

  Model() {
    for (int kind = 0; kind < 5; kind++) {
      rows.add(new ArrayList<>());
    }
  }

  Object answer(String name, int[] v) {
    try {
      return name.equals("text") || name.equals("ordered") || name.equals("top")
          ? textOf(name, v) : name.equals("isSound") ? (Object) true
          : name.equals("digest") ? (Object) digest() : (Object) number(name, v);
    } catch (IndexOutOfBoundsException | IllegalArgumentException | IllegalStateException e) {
      return e.getClass();
    }
  }

  static long turned(int kind, int told) {
    long value = told;
    if (kind == 1) {
      return value * UNIT;
    }
    if (kind == 2) {
      return Math.floorMod(value, 65536L);
    }
    if (kind == 3) {
      return Math.floorMod(value + 128, 256L) - 128;
    }
    return kind == 4 ? Math.floorMod(value + 32768, 65536L) - 32768 : value;
  }

  static int told(int kind, long number) {
    return (int) (kind == 1 ? number / UNIT : number);
  }

  static void index(boolean holds) {
    if (!holds) {
      throw new IndexOutOfBoundsException();
    }
  }

  static void argument(boolean holds) {
    if (!holds) {
      throw new IllegalArgumentException();
    }
  }

  static void state(boolean holds) {
    if (!holds) {
      throw new IllegalStateException();
    }
  }

  static boolean in(int value, int least, int most) {
    return least <= value && value <= most;
  }

  List<Long> row(int kind) {
    index(in(kind, 0, 4));
    return rows.get(kind);
  }

  List<Long> shelf(int shelf) {
    index(in(shelf, 0, shelves.size() - 1));
    return shelves.get(shelf);
  }

  static List<Long> sorted(List<Long> numbers) {
    List<Long> copy = new ArrayList<>(numbers);
    Collections.sort(copy);
    return copy;
  }

  static boolean isSorted(List<Long> numbers) {
    return numbers.equals(sorted(numbers));
  }

  static int differing(List<Long> one, List<Long> other) {
    int differing = 0;
    for (int i = 0; i < one.size(); i++) {
      differing += one.get(i).equals(other.get(i)) ? 0 : 1;
    }
    return differing;
  }

  static int runs(List<Long> row) {
    int runs = 0;
    for (int i = 0; i < row.size(); i++) {
      runs += i == 0 || row.get(i) < row.get(i - 1) ? 1 : 0;
    }
    return runs;
  }

  static int search(List<Long> row, int from, int to, long number) {
    int smaller = 0;
    for (int i = from; i < to; i++) {
      if (row.get(i) == number) {
        return i;
      }
      smaller += row.get(i) < number ? 1 : 0;
    }
    return -1 - (from + smaller);
  }

  static List<Long> extended(List<Long> row, int from, int to) {
    List<Long> part = new ArrayList<>();
    for (int i = from; i < to; i++) {
      part.add(i < row.size() ? row.get(i) : 0L);
    }
    return part;
  }

  static void replace(List<Long> row, List<Long> by) {
    List<Long> copy = new ArrayList<>(by);
    row.clear();
    row.addAll(copy);
  }

  static int fault(List<Long> row, int from, int to) {
    argument(in(from, 0, 400) && in(to, 0, 400));
    argument(!(from > to && to > row.size()));
    return from > to ? -9 : to > row.size() ? -8 : 0;
  }

  static int faultOfCopy(List<Long> row, int from, int to) {
    argument(in(from, 0, 400) && in(to, 0, 400));
    argument(to - from <= 300);
    argument(!(from > to && from > row.size()));
    return from > to ? -9 : from > row.size() ? -8 : 0;
  }

  String textOf(String name, int[] v) {
    List<Long> row = row(v[0]);
    List<Long> part;
    if (name.equals("top")) {
      argument(in(v[1], 0, 40));
      List<Long> falling = sorted(row);
      Collections.reverse(falling);
      part = falling.subList(0, Math.min(v[1], row.size()));
    } else {
      argument(in(v[1], 0, 400) && in(v[2], 0, 400) && v[2] - v[1] <= 40);
      argument(v[1] <= v[2] && v[2] <= row.size());
      part = (name.equals("text") ? row : sorted(row)).subList(v[1], v[2]);
    }
    List<String> words = new ArrayList<>();
    for (long number : part) {
      words.add(Long.toString(number));
    }
    return String.join(",", words);
  }

  int number(String name, int[] v) {
    switch (name) {
      case "knock":
        return ++knocks;
      case "house":
        return house(v[0]);
      case "layBack": case "sortShelf": case "merge": case "throwAway": case "ofShelf":
      case "onShelf": case "unlike": case "shared":
        return numberOfShelf(name, v);
      case "ofRow": case "at": case "find": case "findPart": case "count": case "nth":
      case "wouldFind": case "would": case "mode":
        return asked(name, v, row(v[0]));
      case "keep": case "keepPart":
        return kept(name, v, row(v[0]));
      default:
        return changed(name, v, row(v[0]));
    }
  }

  int house(int what) {
    argument(in(what, 0, 4));
    int[] facts = {shelves.size(), 0, 0, 0, knocks};
    for (List<Long> row : rows) {
      facts[1] += row.size();
      facts[3] += !row.isEmpty() && isSorted(row) ? 1 : 0;
    }
    for (List<Long> shelf : shelves) {
      facts[2] += shelf.size();
    }
    return facts[what];
  }

  int kept(String name, int[] v, List<Long> row) {
    int from = name.equals("keep") ? 0 : v[1];
    int to = name.equals("keep") ? row.size() : v[2];
    int fault = faultOfCopy(row, from, to);
    state(shelves.size() < 6);
    if (fault == 0) {
      shelves.add(extended(row, from, to));
      kinds.add(v[0]);
    }
    return fault == 0 ? shelves.size() - 1 : fault;
  }

  int changed(String name, int[] v, List<Long> row) {
    int kind = v[0];
    List<Long> before = new ArrayList<>(row);
    int size = row.size();
    switch (name) {
      case "make":
        argument(in(v[1], 0, 300));
        replace(row, Collections.nCopies(v[1], 0L));
        return size;
      case "pattern":
        argument(in(v[1], 0, 6) && in(v[2], 0, 300) && in(v[3], -100000, 100000));
        argument(in(v[4], -1000, 1000) && in(v[5], 1, 100));
        replace(row, pattern(kind, v[1], v[2], v[3], v[4], v[5]));
        return runs(row);
      case "set":
        index(in(v[1], 0, size - 1));
        return told(kind, row.set(v[1], turned(kind, v[2])));
      case "swap":
        index(in(v[1], 0, size - 1) && in(v[2], 0, size - 1));
        Collections.swap(row, v[1], v[2]);
        return runs(row);
      case "fill":
        Collections.fill(row, turned(kind, v[1]));
        return differing(before, row);
      case "fillPart": {
        int fault = fault(row, v[1], v[2]);
        if (fault == 0) {
          Collections.fill(row.subList(v[1], v[2]), turned(kind, v[3]));
        }
        return fault == 0 ? differing(before, row) : fault;
      }
      case "resize":
        argument(in(v[1], -1, 300));
        if (v[1] == -1) {
          return -9;
        }
        replace(row, extended(row, 0, v[1]));
        return size;
      case "cut": {
        int fault = faultOfCopy(row, v[1], v[2]);
        if (fault == 0) {
          replace(row, extended(row, v[1], v[2]));
        }
        return fault == 0 ? row.size() : fault;
      }
      case "turn":
        argument(in(v[1], 0, 400) && in(v[2], 0, 400) && v[1] <= v[2] && v[2] <= size);
        Collections.reverse(row.subList(v[1], v[2]));
        return runs(row);
      case "roll":
        argument(in(v[1], 0, 300));
        for (int i = 0; i < size; i++) {
          row.set((i + v[1]) % size, before.get(i));
        }
        return runs(row);
      case "pour": {
        List<Long> other = row(v[1]);
        argument(v[0] != v[1]);
        other.clear();
        for (long number : row) {
          other.add(turned(v[1], told(kind, number)));
        }
        return other.size();
      }
      default:
        return putInOrder(name, v, row, before);
    }
  }

  List<Long> pattern(int kind, int which, int n, int a, int b, int c) {
    List<Long> made = new ArrayList<>();
    int x = Math.floorMod(a, 65537);
    for (int k = 0; k < n; k++) {
      int m = k / c;
      int r = k % c;
      int[] ints = {a + b * k, a + b * r, a + b * Math.min(k, n - 1 - k),
          a + b * ((7 * k + k / 3) % c), a + b * k, b + c * (x - 32768),
          m % 2 == 0 ? a + m + b * r : a + m + b * (c - 1 - r)};
      made.add(turned(kind, ints[which]));
      x = (75 * x + 74) % 65537;
    }
    for (int many = 1; which == 4 && many * c < n; many++) {
      Collections.swap(made, many * c - 1, many * c);
    }
    return made;
  }

  int putInOrder(String name, int[] v, List<Long> row, List<Long> before) {
    switch (name) {
      case "sort":
        Collections.sort(row);
        return differing(before, row);
      case "sortPart": {
        int fault = fault(row, v[1], v[2]);
        if (fault == 0) {
          Collections.sort(row.subList(v[1], v[2]));
        }
        return fault == 0 ? differing(before, row) : fault;
      }
      case "sortPieces": {
        argument(in(v[1], 1, 300));
        int parts = 0;
        while (parts * v[1] < row.size()) {
          Collections.sort(row.subList(parts * v[1], Math.min(row.size(), (parts + 1) * v[1])));
          parts++;
        }
        return parts;
      }
      case "insert": {
        state(isSorted(row));
        state(row.size() < 300);
        row.add(turned(v[0], v[1]));
        Collections.sort(row);
        return row.indexOf(turned(v[0], v[1]));
      }
      case "drop": {
        state(isSorted(row));
        int found = search(row, 0, row.size(), turned(v[0], v[1]));
        row.remove(turned(v[0], v[1]));
        return found;
      }
      default:
        state(isSorted(row));
        replace(row, sorted(new ArrayList<>(new HashSet<>(row))));
        return before.size() - row.size();
    }
  }

  int numberOfShelf(String name, int[] v) {
    List<Long> shelf = shelf(v[0]);
    int kind = kinds.get(v[0]);
    List<Long> row = rows.get(kind);
    switch (name) {
      case "layBack":
        replace(row, shelf);
        return kind;
      case "sortShelf": {
        List<Long> before = new ArrayList<>(shelf);
        Collections.sort(shelf);
        return differing(before, shelf);
      }
      case "merge":
        state(row.size() + shelf.size() <= 300);
        row.addAll(shelf);
        Collections.sort(row);
        return row.size();
      case "throwAway":
        shelves.remove(v[0]);
        kinds.remove(v[0]);
        return shelves.size();
      case "ofShelf":
        argument(in(v[1], 0, 2));
        return v[1] == 0 ? kind : v[1] == 1 ? shelf.size() : isSorted(shelf) ? 1 : 0;
      case "onShelf":
        index(in(v[1], 0, shelf.size() - 1));
        return told(kind, shelf.get(v[1]));
      case "unlike":
        for (int i = 0; i < Math.max(row.size(), shelf.size()); i++) {
          if (i >= row.size() || i >= shelf.size() || !row.get(i).equals(shelf.get(i))) {
            return i;
          }
        }
        return -1;
      default:
        argument(in(v[1], 0, 2));
        return shared(row, shelf, v[1]);
    }
  }

  static int shared(List<Long> row, List<Long> shelf, int what) {
    if (what == 0) {
      return sorted(row).equals(sorted(shelf)) ? 1 : 0;
    }
    if (what == 2) {
      HashSet<Long> missing = new HashSet<>(row);
      missing.removeAll(new HashSet<>(shelf));
      return missing.size();
    }
    int common = 0;
    for (long number : new HashSet<>(row)) {
      common += Math.min(Collections.frequency(row, number), Collections.frequency(shelf, number));
    }
    return common;
  }

  int asked(String name, int[] v, List<Long> row) {
    int kind = v[0];
    int size = row.size();
    switch (name) {
      case "ofRow":
        argument(in(v[1], 0, 4));
        return ofRow(row, v[1]);
      case "at":
        index(in(v[1], 0, size - 1));
        return told(kind, row.get(v[1]));
      case "find":
        state(isSorted(row));
        return search(row, 0, size, turned(kind, v[1]));
      case "findPart": {
        int fault = fault(row, v[1], v[2]);
        if (fault != 0) {
          return fault == -9 ? -1009 : -1008;
        }
        state(isSorted(row.subList(v[1], v[2])));
        return search(row, v[1], v[2], turned(kind, v[3]));
      }
      case "count":
        return Collections.frequency(row, turned(kind, v[1]));
      case "nth":
        index(in(v[1], 0, size - 1));
        return told(kind, sorted(row).get(v[1]));
      case "wouldFind":
        return search(sorted(row), 0, size, turned(kind, v[1]));
      case "would":
        argument(in(v[1], 0, 3));
        return would(kind, row, v[1]);
      default:
        state(size > 0);
        return told(kind, mode(row));
    }
  }

  static int ofRow(List<Long> row, int what) {
    int ahead = row.size();
    int pairs = 0;
    for (int i = row.size() - 1; i >= 0; i--) {
      ahead = i > 0 && row.get(i) < row.get(i - 1) ? i : ahead;
      for (int j = i + 1; j < row.size(); j++) {
        pairs += row.get(i) > row.get(j) ? 1 : 0;
      }
    }
    return new int[] {row.size(), isSorted(row) ? 1 : 0, runs(row), ahead, pairs}[what];
  }

  static long mode(List<Long> row) {
    long mode = 0;
    int most = 0;
    for (long number : sorted(row)) {
      int often = Collections.frequency(row, number);
      mode = often > most ? number : mode;
      most = Math.max(often, most);
    }
    return mode;
  }

  static int would(int kind, List<Long> row, int what) {
    List<Long> sorted = sorted(row);
    long step = row.size() < 2 ? -1 : Integer.MAX_VALUE;
    for (int i = 1; i < row.size(); i++) {
      step = Math.min(step, (long) told(kind, sorted.get(i)) - told(kind, sorted.get(i - 1)));
    }
    int often = row.isEmpty() ? 0 : Collections.frequency(row, mode(row));
    return new int[] {differing(row, sorted), new HashSet<>(row).size(), often, (int) step}[what];
  }

  long digest() {
    List<Integer> all = new ArrayList<>();
    for (int what = 0; what <= 4; what++) {
      all.add(house(what));
    }
    for (int kind = 0; kind < 5; kind++) {
      List<Long> row = rows.get(kind);
      for (int what = 0; what <= 3; what++) {
        all.add(ofRow(row, what));
      }
      for (long number : row) {
        all.add(told(kind, number));
      }
      for (int what = 0; what <= 3; what++) {
        all.add(would(kind, row, what));
      }
      if (!row.isEmpty()) {
        all.add(told(kind, sorted(row).get(0)));
        all.add(told(kind, sorted(row).get(row.size() / 2)));
        all.add(told(kind, sorted(row).get(row.size() - 1)));
      }
      for (int value : new int[] {-7, 0, 100}) {
        all.add(search(sorted(row), 0, row.size(), turned(kind, value)));
      }
    }
    for (int shelf = 0; shelf < shelves.size(); shelf++) {
      for (int what = 0; what <= 2; what++) {
        all.add(numberOfShelf("ofShelf", new int[] {shelf, what}));
      }
      all.add(numberOfShelf("unlike", new int[] {shelf}));
      for (int what = 0; what <= 2; what++) {
        all.add(numberOfShelf("shared", new int[] {shelf, what}));
      }
    }
    all.add(1);
    long d = 5113;
    for (int v : all) {
      d = d * 31 + v;
    }
    return d;
  }
}
