/**
 * Five rows of whole numbers, one of each kind, and at most six shelves with copies of rows.
 *
 * <p>The words in capitals in the comments (KIND, NUMBER, ROW, PART ..) are those of the document.
 */
public final class Rowsorter {

  private static final int MOST_PLACES = 300;
  private static final int MOST_SHELVES = 6;
  private static final int LAST_BOUND = 400;
  private static final int MOST_IN_TEXT = 40;
  private static final int MOST_DIGITS = 20;
  private static final int MOST_DIFFERENCE = 2147483647;

  private static final int NONE = -1;
  private static final int NO_FAULT = 0;
  private static final int CROSSED = -9;
  private static final int BEYOND = -8;
  /** What a SEARCH answers to a fault is this much lower: -1 to -301 tell a PLACE there. */
  private static final int SEARCH_FAULTS = -1000;
  private static final int NO_SIZE = -1;
  private static final int NOTHING_DONE = -9;

  private static final int SAW = 1;
  private static final int ORGAN_PIPE = 2;
  private static final int FEW_UNLIKE = 3;
  private static final int NEARLY_A_RUN = 4;
  private static final int MIXED = 5;
  private static final int TO_AND_FRO = 6;

  private static final int MIXED_MODULUS = 65537;
  private static final int MIXED_FACTOR = 75;
  private static final int MIXED_STEP = 74;
  private static final int MIXED_MIDDLE = 32768;

  private static final long LONG_UNIT = 3000000019L;
  private static final long DIGEST_START = 5113;
  private static final long DIGEST_FACTOR = 31;

  private static final Kind[] KINDS = Kind.values();

  private final Row[] rows;
  /** All six are made ahead and used again; only the first shelfCount of them are SHELVES. */
  private final Row[] shelves;
  private int shelfCount;
  private int knocks;

  private final Sorter sorter;
  /** Three desks to work on; what lies on them is worth nothing after a call. */
  private final Row rowDesk;
  private final Row shelfDesk;
  private final Row before;
  private final int[] tally;
  private final char[] digits;

  public Rowsorter() {
    rows = new Row[KINDS.length];
    for (int i = 0; i < rows.length; i++) {
      rows[i] = new Row(KINDS[i]);
    }
    shelves = new Row[MOST_SHELVES];
    for (int i = 0; i < shelves.length; i++) {
      shelves[i] = new Row(Kind.INT);
    }
    sorter = new Sorter();
    rowDesk = new Row(Kind.INT);
    shelfDesk = new Row(Kind.INT);
    before = new Row(Kind.INT);
    tally = new int[MOST_PLACES];
    digits = new char[MOST_DIGITS];
  }

  // ---- rows that are made

  public int make(int kind, int size) throws IndexOutOfBoundsException, IllegalArgumentException {
    Row row = rowOf(kind);
    refuseUnless(isSize(size));
    int sizeBefore = row.size;
    row.clear(size);
    return sizeBefore;
  }

  public int pattern(int kind, int which, int n, int a, int b, int c)
      throws IndexOutOfBoundsException, IllegalArgumentException {
    Row row = rowOf(kind);
    refuseUnless(isWithin(which, 0, TO_AND_FRO) && isSize(n));
    refuseUnless(isWithin(a, -100000, 100000) && isWithin(b, -1000, 1000) && isWithin(c, 1, 100));
    row.clear(n);
    if (which == MIXED) {
      layMixed(row, a, b, c);
    } else {
      layPattern(row, which, a, b, c);
    }
    if (which == NEARLY_A_RUN) {
      changeNeighbours(row, c);
    }
    return row.risingRuns();
  }

  public int set(int kind, int place, int value) throws IndexOutOfBoundsException {
    Row row = rowOf(kind);
    refuseNoPlace(row, place);
    int numberBefore = row.numbers[place];
    row.numbers[place] = row.kind.turned(value);
    return numberBefore;
  }

  public int swap(int kind, int one, int other) throws IndexOutOfBoundsException {
    Row row = rowOf(kind);
    refuseNoPlace(row, one);
    refuseNoPlace(row, other);
    row.change(one, other);
    return row.risingRuns();
  }

  public int fill(int kind, int value) throws IndexOutOfBoundsException {
    Row row = rowOf(kind);
    return row.overwrite(0, row.size, row.kind.turned(value));
  }

  public int fillPart(int kind, int from, int to, int value)
      throws IndexOutOfBoundsException, IllegalArgumentException {
    Row row = rowOf(kind);
    int fault = faultOfPart(row, from, to);
    return fault == NO_FAULT ? row.overwrite(from, to, row.kind.turned(value)) : fault;
  }

  public int resize(int kind, int size) throws IndexOutOfBoundsException, IllegalArgumentException {
    Row row = rowOf(kind);
    refuseUnless(size == NO_SIZE || isSize(size));
    if (size == NO_SIZE) {
      return NOTHING_DONE;
    }
    int sizeBefore = row.size;
    row.takePart(row, 0, size);
    return sizeBefore;
  }

  public int cut(int kind, int from, int to)
      throws IndexOutOfBoundsException, IllegalArgumentException {
    Row row = rowOf(kind);
    int fault = faultOfCopy(row, from, to);
    if (fault != NO_FAULT) {
      return fault;
    }
    row.takePart(row, from, to);
    return row.size;
  }

  public int turn(int kind, int from, int to)
      throws IndexOutOfBoundsException, IllegalArgumentException {
    Row row = rowOf(kind);
    refuseUnless(isPartOf(row, from, to));
    row.reverse(from, to);
    return row.risingRuns();
  }

  public int roll(int kind, int by) throws IndexOutOfBoundsException, IllegalArgumentException {
    Row row = rowOf(kind);
    refuseUnless(isWithin(by, 0, MOST_PLACES));
    row.rotate(by);
    return row.risingRuns();
  }

  public int pour(int kind, int other) throws IndexOutOfBoundsException, IllegalArgumentException {
    Row source = rowOf(kind);
    Row target = rowOf(other);
    refuseUnless(kind != other);
    target.clear(source.size);
    for (int place = 0; place < source.size; place++) {
      target.numbers[place] = target.kind.turned(source.numbers[place]);
    }
    return target.size;
  }

  // ---- rows in order

  public int sort(int kind) throws IndexOutOfBoundsException {
    Row row = rowOf(kind);
    return order(row, 0, row.size);
  }

  public int sortPart(int kind, int from, int to)
      throws IndexOutOfBoundsException, IllegalArgumentException {
    Row row = rowOf(kind);
    int fault = faultOfPart(row, from, to);
    return fault == NO_FAULT ? order(row, from, to) : fault;
  }

  public int sortPieces(int kind, int width)
      throws IndexOutOfBoundsException, IllegalArgumentException {
    Row row = rowOf(kind);
    refuseUnless(isWithin(width, 1, MOST_PLACES));
    int parts = 0;
    for (int from = 0; from < row.size; from += width) {
      sorter.putInOrder(row.numbers, from, Math.min(from + width, row.size));
      parts++;
    }
    return parts;
  }

  public int insert(int kind, int value) throws IndexOutOfBoundsException, IllegalStateException {
    Row row = rowOf(kind);
    refuseUnsorted(row, 0, row.size);
    if (row.size >= MOST_PLACES) {
      throw new IllegalStateException("the row is full");
    }
    int number = row.kind.turned(value);
    int found = row.search(0, row.size, number);
    int place = found < 0 ? -1 - found : found;
    row.putIn(place, number);
    return place;
  }

  public int drop(int kind, int value) throws IndexOutOfBoundsException, IllegalStateException {
    Row row = rowOf(kind);
    refuseUnsorted(row, 0, row.size);
    int found = row.search(0, row.size, row.kind.turned(value));
    if (found >= 0) {
      row.takeOut(found);
    }
    return found;
  }

  public int thin(int kind) throws IndexOutOfBoundsException, IllegalStateException {
    Row row = rowOf(kind);
    refuseUnsorted(row, 0, row.size);
    return row.takeOutRepeated();
  }

  // ---- shelves

  public int keep(int kind) throws IndexOutOfBoundsException, IllegalStateException {
    Row row = rowOf(kind);
    refuseFullShelves();
    return putOnShelf(row, 0, row.size);
  }

  public int keepPart(int kind, int from, int to)
      throws IndexOutOfBoundsException, IllegalArgumentException, IllegalStateException {
    Row row = rowOf(kind);
    int fault = faultOfCopy(row, from, to);
    refuseFullShelves();
    return fault == NO_FAULT ? putOnShelf(row, from, to) : fault;
  }

  public int layBack(int shelf) throws IndexOutOfBoundsException {
    Row copy = shelfOf(shelf);
    rowLike(copy).takeAll(copy);
    return copy.kind.number;
  }

  public int sortShelf(int shelf) throws IndexOutOfBoundsException {
    Row copy = shelfOf(shelf);
    return order(copy, 0, copy.size);
  }

  public int merge(int shelf) throws IndexOutOfBoundsException, IllegalStateException {
    Row copy = shelfOf(shelf);
    Row row = rowLike(copy);
    if (row.size + copy.size > MOST_PLACES) {
      throw new IllegalStateException("the row would be too long");
    }
    row.append(copy);
    sorter.putInOrder(row.numbers, 0, row.size);
    return row.size;
  }

  public int throwAway(int shelf) throws IndexOutOfBoundsException {
    Row thrown = shelfOf(shelf);
    for (int i = shelf; i < shelfCount - 1; i++) {
      shelves[i] = shelves[i + 1];
    }
    shelfCount--;
    // Kept behind the others, so that the next copy needs no new array.
    shelves[shelfCount] = thrown;
    return shelfCount;
  }

  public int knock() {
    knocks++;
    return knocks;
  }

  // ---- what is asked

  public int ofRow(int kind, int what) throws IndexOutOfBoundsException, IllegalArgumentException {
    Row row = rowOf(kind);
    refuseUnless(isWithin(what, 0, 4));
    return factOfRow(row, what);
  }

  public int at(int kind, int place) throws IndexOutOfBoundsException {
    Row row = rowOf(kind);
    refuseNoPlace(row, place);
    return row.numbers[place];
  }

  public String text(int kind, int from, int to)
      throws IndexOutOfBoundsException, IllegalArgumentException {
    Row row = rowOf(kind);
    refuseUnless(isPartOf(row, from, to) && to - from <= MOST_IN_TEXT);
    return listed(row, from, to - from, 1);
  }

  public int find(int kind, int value) throws IndexOutOfBoundsException, IllegalStateException {
    Row row = rowOf(kind);
    refuseUnsorted(row, 0, row.size);
    return row.search(0, row.size, row.kind.turned(value));
  }

  public int findPart(int kind, int from, int to, int value)
      throws IndexOutOfBoundsException, IllegalArgumentException, IllegalStateException {
    Row row = rowOf(kind);
    int fault = faultOfPart(row, from, to);
    if (fault != NO_FAULT) {
      return SEARCH_FAULTS + fault;
    }
    refuseUnsorted(row, from, to);
    return row.search(from, to, row.kind.turned(value));
  }

  public int count(int kind, int value) throws IndexOutOfBoundsException {
    Row row = rowOf(kind);
    return row.howOften(row.kind.turned(value));
  }

  public int ofShelf(int shelf, int what)
      throws IndexOutOfBoundsException, IllegalArgumentException {
    Row copy = shelfOf(shelf);
    refuseUnless(isWithin(what, 0, 2));
    return factOfShelf(copy, what);
  }

  public int onShelf(int shelf, int place) throws IndexOutOfBoundsException {
    Row copy = shelfOf(shelf);
    refuseNoPlace(copy, place);
    return copy.numbers[place];
  }

  public int unlike(int shelf) throws IndexOutOfBoundsException {
    Row copy = shelfOf(shelf);
    return copy.firstUnlike(rowLike(copy));
  }

  public int house(int what) throws IllegalArgumentException {
    refuseUnless(isWithin(what, 0, 4));
    switch (what) {
      case 0:
        return shelfCount;
      case 1:
        return placesOf(rows, rows.length);
      case 2:
        return placesOf(shelves, shelfCount);
      case 3:
        return sortedRows();
      default:
        return knocks;
    }
  }

  // ---- what would be, if a row was sorted

  public int nth(int kind, int nth) throws IndexOutOfBoundsException {
    Row row = rowOf(kind);
    refuseNoPlace(row, nth);
    return inOrder(row).numbers[nth];
  }

  public String ordered(int kind, int from, int to)
      throws IndexOutOfBoundsException, IllegalArgumentException {
    Row row = rowOf(kind);
    refuseUnless(isPartOf(row, from, to) && to - from <= MOST_IN_TEXT);
    return listed(inOrder(row), from, to - from, 1);
  }

  public String top(int kind, int many)
      throws IndexOutOfBoundsException, IllegalArgumentException {
    Row row = rowOf(kind);
    refuseUnless(isWithin(many, 0, MOST_IN_TEXT));
    return listed(inOrder(row), row.size - 1, Math.min(many, row.size), -1);
  }

  public int wouldFind(int kind, int value) throws IndexOutOfBoundsException {
    Row row = rowOf(kind);
    return inOrder(row).search(0, row.size, row.kind.turned(value));
  }

  public int would(int kind, int what) throws IndexOutOfBoundsException, IllegalArgumentException {
    Row row = rowOf(kind);
    refuseUnless(isWithin(what, 0, 3));
    return factOfOrder(row, inOrder(row), what);
  }

  public int mode(int kind) throws IndexOutOfBoundsException, IllegalStateException {
    Row row = rowOf(kind);
    if (row.size < 1) {
      throw new IllegalStateException("the row is empty");
    }
    Row sorted = inOrder(row);
    return sorted.numbers[sorted.placeOfMostOften()];
  }

  public int shared(int shelf, int what)
      throws IndexOutOfBoundsException, IllegalArgumentException {
    Row copy = shelfOf(shelf);
    refuseUnless(isWithin(what, 0, 2));
    Row sortedRow = inOrder(rowLike(copy));
    return factOfBoth(sortedRow, shelfInOrder(copy), what);
  }

  public boolean isSound() {
    boolean sound = shelfCount >= 0 && shelfCount <= MOST_SHELVES;
    for (int i = 0; i < rows.length; i++) {
      sound = sound && isSize(rows[i].size) && isSoundInOrder(rows[i]) && isLeftByItsCopy(rows[i]);
    }
    for (int i = 0; i < shelves.length; i++) {
      sound = sound && isSize(shelves[i].size);
    }
    return sound;
  }

  public long digest() {
    long d = DIGEST_START;
    for (int what = 0; what <= 4; what++) {
      d = d * DIGEST_FACTOR + house(what);
    }
    for (int i = 0; i < rows.length; i++) {
      d = withRow(d, rows[i]);
    }
    for (int i = 0; i < shelfCount; i++) {
      d = withShelf(d, shelves[i]);
    }
    return d * DIGEST_FACTOR + (isSound() ? 1 : 0);
  }

  // ---- what is refused

  private Row rowOf(int kind) {
    if (kind < 0 || kind >= rows.length) {
      throw new IndexOutOfBoundsException("no such kind");
    }
    return rows[kind];
  }

  private Row shelfOf(int shelf) {
    if (shelf < 0 || shelf >= shelfCount) {
      throw new IndexOutOfBoundsException("no such shelf");
    }
    return shelves[shelf];
  }

  private static void refuseNoPlace(Row row, int place) {
    if (place < 0 || place >= row.size) {
      throw new IndexOutOfBoundsException("no such place");
    }
  }

  private static void refuseUnless(boolean isAllowed) {
    if (!isAllowed) {
      throw new IllegalArgumentException("beyond what is allowed");
    }
  }

  private static void refuseUnsorted(Row row, int from, int to) {
    if (!row.isSorted(from, to)) {
      throw new IllegalStateException("not sorted");
    }
  }

  private void refuseFullShelves() {
    if (shelfCount >= MOST_SHELVES) {
      throw new IllegalStateException("all shelves are taken");
    }
  }

  private static boolean isWithin(int value, int least, int most) {
    return value >= least && value <= most;
  }

  private static boolean isSize(int size) {
    return isWithin(size, 0, MOST_PLACES);
  }

  private static boolean areBounds(int from, int to) {
    return isWithin(from, 0, LAST_BOUND) && isWithin(to, 0, LAST_BOUND);
  }

  private static boolean isPartOf(Row row, int from, int to) {
    return areBounds(from, to) && from <= to && to <= row.size;
  }

  /** For a PART that has to lie within the ROW. */
  private static int faultOfPart(Row row, int from, int to) {
    return faultOf(areBounds(from, to), from > to, to > row.size);
  }

  /** For a PART that NUMBERS 0 make longer: only where it begins has to lie within the ROW. */
  private static int faultOfCopy(Row row, int from, int to) {
    boolean isAllowed = areBounds(from, to) && to - from <= MOST_PLACES;
    return faultOf(isAllowed, from > to, from > row.size);
  }

  private static int faultOf(boolean isAllowed, boolean isCrossed, boolean isBeyond) {
    refuseUnless(isAllowed && !(isCrossed && isBeyond));
    if (isCrossed) {
      return CROSSED;
    }
    return isBeyond ? BEYOND : NO_FAULT;
  }

  // ---- patterns

  private static void layPattern(Row row, int which, int a, int b, int c) {
    for (int k = 0; k < row.size; k++) {
      row.numbers[k] = row.kind.turned(intOfPattern(which, row.size, a, b, c, k));
    }
  }

  private static int intOfPattern(int which, int n, int a, int b, int c, int k) {
    if (c < 1) {
      return a;
    }
    switch (which) {
      case SAW:
        return a + b * (k % c);
      case ORGAN_PIPE:
        return a + b * Math.min(k, n - 1 - k);
      case FEW_UNLIKE:
        return a + b * ((7 * k + k / 3) % c);
      case TO_AND_FRO:
        return a + k / c + b * ((k / c) % 2 == 0 ? k % c : c - 1 - k % c);
      default:
        return a + b * k;
    }
  }

  private static void layMixed(Row row, int a, int b, int c) {
    int x = Math.floorMod(a, MIXED_MODULUS);
    for (int k = 0; k < row.size; k++) {
      row.numbers[k] = row.kind.turned(b + c * (x - MIXED_MIDDLE));
      x = (MIXED_FACTOR * x + MIXED_STEP) % MIXED_MODULUS;
    }
  }

  private static void changeNeighbours(Row row, int c) {
    int step = Math.max(c, 1);
    for (int k = step - 1; k + 1 < row.size; k += step) {
      row.change(k, k + 1);
    }
  }

  // ---- order

  /** SORTS a PART and answers at how many PLACES there is another NUMBER then. */
  private int order(Row row, int from, int to) {
    before.takeAll(row);
    sorter.putInOrder(row.numbers, from, to);
    return row.placesUnlike(before);
  }

  private Row inOrder(Row row) {
    rowDesk.takeAll(row);
    sorter.putInOrder(rowDesk.numbers, 0, rowDesk.size);
    return rowDesk;
  }

  private Row shelfInOrder(Row copy) {
    shelfDesk.takeAll(copy);
    sorter.putInOrder(shelfDesk.numbers, 0, shelfDesk.size);
    return shelfDesk;
  }

  private int pairsOutOfOrder(Row row) {
    rowDesk.takeAll(row);
    return sorter.putInOrder(rowDesk.numbers, 0, rowDesk.size);
  }

  // ---- shelves and the house

  private int putOnShelf(Row row, int from, int to) {
    shelves[shelfCount].takePart(row, from, to);
    shelfCount++;
    return shelfCount - 1;
  }

  private Row rowLike(Row copy) {
    return rowOf(copy.kind.number);
  }

  private static int placesOf(Row[] many, int howMany) {
    int places = 0;
    for (int i = 0; i < howMany && i < many.length; i++) {
      places += many[i].size;
    }
    return places;
  }

  private int sortedRows() {
    int sorted = 0;
    for (int i = 0; i < rows.length; i++) {
      if (rows[i].size > 0 && rows[i].isSorted(0, rows[i].size)) {
        sorted++;
      }
    }
    return sorted;
  }

  // ---- what is told

  private int factOfRow(Row row, int what) {
    switch (what) {
      case 0:
        return row.size;
      case 1:
        return row.isSorted(0, row.size) ? 1 : 0;
      case 2:
        return row.risingRuns();
      case 3:
        return row.sortedPlaces();
      default:
        return pairsOutOfOrder(row);
    }
  }

  private static int factOfShelf(Row copy, int what) {
    switch (what) {
      case 0:
        return copy.kind.number;
      case 1:
        return copy.size;
      default:
        return copy.isSorted(0, copy.size) ? 1 : 0;
    }
  }

  private static int factOfOrder(Row row, Row sorted, int what) {
    switch (what) {
      case 0:
        return row.placesUnlike(sorted);
      case 1:
        return sorted.unlikeNumbers();
      case 2:
        return sorted.size < 1 ? 0 : sorted.howOften(sorted.numbers[sorted.placeOfMostOften()]);
      default:
        return sorted.smallestStep();
    }
  }

  private static int factOfBoth(Row sortedRow, Row sortedCopy, int what) {
    int common = sortedRow.inCommon(sortedCopy);
    switch (what) {
      case 0:
        return common == sortedRow.size && common == sortedCopy.size ? 1 : 0;
      case 1:
        return common;
      default:
        return sortedRow.unlikeNumbersNotIn(sortedCopy);
    }
  }

  /** The NUMBERS of so many PLACES from first on, upwards by step 1, downwards by step -1. */
  private String listed(Row row, int first, int many, int step) {
    StringBuilder line = new StringBuilder();
    for (int i = 0; i < many; i++) {
      if (i > 0) {
        line.append(',');
      }
      addWhole(line, row.kind.whole(row.numbers[first + i * step]));
    }
    return line.toString();
  }

  private void addWhole(StringBuilder line, long number) {
    if (number < 0) {
      line.append('-');
    }
    long rest = Math.abs(number);
    int first = digits.length;
    do {
      first--;
      digits[first] = (char) ('0' + (int) (rest % 10));
      rest /= 10;
    } while (rest > 0 && first > 0);
    for (int i = first; i < digits.length; i++) {
      line.append(digits[i]);
    }
  }

  // ---- soundness and checksum

  private boolean isSoundInOrder(Row row) {
    Row sorted = inOrder(row);
    return sorted.size == row.size && sorted.isSorted(0, sorted.size) && areAsOften(row, sorted);
  }

  /** Each NUMBER is tallied at the PLACE at which a SEARCH finds it: up for row, down for sorted. */
  private boolean areAsOften(Row row, Row sorted) {
    for (int place = 0; place < row.size; place++) {
      tally[place] = 0;
    }
    for (int place = 0; place < row.size; place++) {
      int ofRow = sorted.search(0, sorted.size, row.numbers[place]);
      int ofSorted = sorted.search(0, sorted.size, sorted.numbers[place]);
      if (ofRow < 0 || ofSorted < 0) {
        return false;
      }
      tally[ofRow]++;
      tally[ofSorted]--;
    }
    boolean asOften = true;
    for (int place = 0; place < row.size; place++) {
      asOften = asOften && tally[place] == 0;
    }
    return asOften;
  }

  private boolean isLeftByItsCopy(Row row) {
    before.takeAll(row);
    Row copy = inOrder(row);
    copy.overwrite(0, copy.size, 1);
    copy.takePart(copy, copy.size / 2, copy.size);
    return row.firstUnlike(before) == NONE;
  }

  private long withRow(long start, Row row) {
    long d = start;
    for (int what = 0; what <= 3; what++) {
      d = d * DIGEST_FACTOR + factOfRow(row, what);
    }
    for (int place = 0; place < row.size; place++) {
      d = d * DIGEST_FACTOR + row.numbers[place];
    }
    Row sorted = inOrder(row);
    for (int what = 0; what <= 3; what++) {
      d = d * DIGEST_FACTOR + factOfOrder(row, sorted, what);
    }
    if (sorted.size > 0) {
      d = d * DIGEST_FACTOR + sorted.numbers[0];
      d = d * DIGEST_FACTOR + sorted.numbers[sorted.size / 2];
      d = d * DIGEST_FACTOR + sorted.numbers[sorted.size - 1];
    }
    d = d * DIGEST_FACTOR + sorted.search(0, sorted.size, row.kind.turned(-7));
    d = d * DIGEST_FACTOR + sorted.search(0, sorted.size, row.kind.turned(0));
    return d * DIGEST_FACTOR + sorted.search(0, sorted.size, row.kind.turned(100));
  }

  private long withShelf(long start, Row copy) {
    long d = start;
    for (int what = 0; what <= 2; what++) {
      d = d * DIGEST_FACTOR + factOfShelf(copy, what);
    }
    Row row = rowLike(copy);
    d = d * DIGEST_FACTOR + copy.firstUnlike(row);
    Row sortedRow = inOrder(row);
    Row sortedCopy = shelfInOrder(copy);
    for (int what = 0; what <= 2; what++) {
      d = d * DIGEST_FACTOR + factOfBoth(sortedRow, sortedCopy, what);
    }
    return d;
  }

  /**
   * The five KINDS. Everywhere in this class a NUMBER is the int by which it is told: that is
   * enough to know it, and NUMBERS of one KIND have the order of these ints.
   */
  private enum Kind {
    INT(0),
    LONG(1) {
      long whole(int told) {
        return told * LONG_UNIT;
      }
    },
    CHAR(2) {
      int turned(int told) {
        return (char) told;
      }
    },
    BYTE(3) {
      int turned(int told) {
        return (byte) told;
      }
    },
    SHORT(4) {
      int turned(int told) {
        return (short) told;
      }
    };

    final int number;

    Kind(int number) {
      this.number = number;
    }

    int turned(int told) {
      return told;
    }

    /** The NUMBER as it stands in texts. */
    long whole(int told) {
      return told;
    }
  }

  /** NUMBERS of one KIND: a ROW, what lies on a SHELF, or a desk to work on. */
  private static final class Row {
    final int[] numbers = new int[MOST_PLACES];
    Kind kind;
    int size;

    Row(Kind kind) {
      this.kind = kind;
    }

    void clear(int places) {
      size = places;
      overwrite(0, places, 0);
    }

    /** Answers at how many PLACES there was another NUMBER. */
    int overwrite(int from, int to, int number) {
      int others = 0;
      for (int place = from; place < to; place++) {
        if (numbers[place] != number) {
          numbers[place] = number;
          others++;
        }
      }
      return others;
    }

    void takeAll(Row source) {
      takePart(source, 0, source.size);
    }

    /** Becomes a COPY of a PART, with NUMBERS 0 where it goes BEYOND; source may be this row. */
    void takePart(Row source, int from, int to) {
      int there = Math.min(to, source.size) - from;
      if (there > 0) {
        System.arraycopy(source.numbers, from, numbers, 0, there);
      }
      kind = source.kind;
      size = to - from;
      overwrite(there, size, 0);
    }

    void append(Row source) {
      if (source.size > numbers.length - size) {
        return;
      }
      System.arraycopy(source.numbers, 0, numbers, size, source.size);
      size += source.size;
    }

    void change(int one, int other) {
      int number = numbers[one];
      numbers[one] = numbers[other];
      numbers[other] = number;
    }

    void reverse(int from, int to) {
      int last = to - 1;
      for (int first = from; first < last; first++) {
        change(first, last);
        last--;
      }
    }

    /** Turning all, then both pieces of it, puts the last ones ahead without a second row. */
    void rotate(int by) {
      if (size < 1) {
        return;
      }
      int ahead = by % size;
      reverse(0, size);
      reverse(0, ahead);
      reverse(ahead, size);
    }

    void putIn(int place, int number) {
      if (place < 0 || place > size || size >= numbers.length) {
        return;
      }
      System.arraycopy(numbers, place, numbers, place + 1, size - place);
      numbers[place] = number;
      size++;
    }

    void takeOut(int place) {
      if (place < 0 || place >= size) {
        return;
      }
      System.arraycopy(numbers, place + 1, numbers, place, size - place - 1);
      size--;
    }

    int takeOutRepeated() {
      int kept = 0;
      for (int place = 0; place < size; place++) {
        if (kept == 0 || numbers[place] != numbers[kept - 1]) {
          numbers[kept] = numbers[place];
          kept++;
        }
      }
      int out = size - kept;
      size = kept;
      return out;
    }

    boolean isSorted(int from, int to) {
      for (int place = from + 1; place < to; place++) {
        if (numbers[place] < numbers[place - 1]) {
          return false;
        }
      }
      return true;
    }

    int risingRuns() {
      int runs = size > 0 ? 1 : 0;
      for (int place = 1; place < size; place++) {
        if (numbers[place] < numbers[place - 1]) {
          runs++;
        }
      }
      return runs;
    }

    int sortedPlaces() {
      for (int place = 1; place < size; place++) {
        if (numbers[place] < numbers[place - 1]) {
          return place;
        }
      }
      return size;
    }

    int howOften(int number) {
      int often = 0;
      for (int place = 0; place < size; place++) {
        if (numbers[place] == number) {
          often++;
        }
      }
      return often;
    }

    int placesUnlike(Row other) {
      int unlikes = 0;
      for (int place = 0; place < size && place < other.size; place++) {
        if (numbers[place] != other.numbers[place]) {
          unlikes++;
        }
      }
      return unlikes;
    }

    int firstUnlike(Row other) {
      int both = Math.min(size, other.size);
      for (int place = 0; place < both; place++) {
        if (numbers[place] != other.numbers[place]) {
          return place;
        }
      }
      return size == other.size ? NONE : both;
    }

    /** The PART has to be SORTED; so has the row of all methods below. */
    int search(int from, int to, int number) {
      int low = from;
      int high = to;
      while (low < high) {
        int middle = low + (high - low) / 2;
        if (numbers[middle] < number) {
          low = middle + 1;
        } else {
          high = middle;
        }
      }
      return low < to && numbers[low] == number ? low : -1 - low;
    }

    boolean isFirstOfItsLike(int place) {
      return place == 0 || numbers[place] != numbers[place - 1];
    }

    int unlikeNumbers() {
      int unlikes = 0;
      for (int place = 0; place < size; place++) {
        if (isFirstOfItsLike(place)) {
          unlikes++;
        }
      }
      return unlikes;
    }

    int unlikeNumbersNotIn(Row other) {
      int missing = 0;
      for (int place = 0; place < size; place++) {
        if (isFirstOfItsLike(place) && other.search(0, other.size, numbers[place]) < 0) {
          missing++;
        }
      }
      return missing;
    }

    /** A PLACE of the NUMBER that is there most often, the smallest one of several; 0 if empty. */
    int placeOfMostOften() {
      int best = 0;
      int mostOften = 0;
      int often = 0;
      for (int place = 0; place < size; place++) {
        often = isFirstOfItsLike(place) ? 1 : often + 1;
        if (often > mostOften) {
          mostOften = often;
          best = place;
        }
      }
      return best;
    }

    int smallestStep() {
      if (size < 2) {
        return NONE;
      }
      // Two ints can lie further apart than an int can tell.
      long smallest = MOST_DIFFERENCE;
      for (int place = 1; place < size; place++) {
        smallest = Math.min(smallest, (long) numbers[place] - numbers[place - 1]);
      }
      return (int) smallest;
    }

    int inCommon(Row other) {
      int common = 0;
      int mine = 0;
      int others = 0;
      while (mine < size && others < other.size) {
        if (numbers[mine] == other.numbers[others]) {
          common++;
          mine++;
          others++;
        } else if (numbers[mine] < other.numbers[others]) {
          mine++;
        } else {
          others++;
        }
      }
      return common;
    }
  }

  /** Merges from below: no recursion, and one array for all that it ever SORTS. */
  private static final class Sorter {
    private final int[] left = new int[MOST_PLACES];

    /** SORTS a PART; answers how many pairs of its PLACES were out of order. */
    int putInOrder(int[] numbers, int from, int to) {
      int pairs = 0;
      for (int width = 1; width < to - from; width *= 2) {
        for (int start = from; start + width < to; start += 2 * width) {
          pairs += join(numbers, start, start + width, Math.min(start + 2 * width, to));
        }
      }
      return pairs;
    }

    /** Joins two SORTED PARTS that lie side by side. */
    private int join(int[] numbers, int start, int middle, int end) {
      if (numbers[middle - 1] <= numbers[middle]) {
        return 0;
      }
      int lefts = middle - start;
      System.arraycopy(numbers, start, left, 0, lefts);
      int pairs = 0;
      int next = 0;
      int right = middle;
      for (int place = start; place < end && next < lefts; place++) {
        if (right < end && numbers[right] < left[next]) {
          // It was behind all of the left ones that still wait.
          pairs += lefts - next;
          numbers[place] = numbers[right];
          right++;
        } else {
          numbers[place] = left[next];
          next++;
        }
      }
      return pairs;
    }
  }
}
