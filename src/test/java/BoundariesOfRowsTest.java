/**
 * The sentences of promises 1 to 18 that name a boundary case, each with a script of its own (see
 * {@link Script}) that would fail if the sentence were broken.
 */
public final class BoundariesOfRowsTest {

  private static final int LEAST = Integer.MIN_VALUE;
  private static final int MOST = Integer.MAX_VALUE;

  public static void main(String[] args) {
    kindsOfEachMethod();
    newObjects();
    make();
    pattern();
    set();
    swap();
    fill();
    fillPart();
    resize();
    cut();
    turn();
    roll();
    pour();
    sort();
    sortPart();
    sortPieces();
    insert();
    drop();
    thin();
    Script.end();
  }

  private static void kindsOfEachMethod() {
    String[] calls = {
      "make(K, 1)", "pattern(K, 0, 1, 0, 0, 1)", "set(K, 0, 0)", "swap(K, 0, 0)", "fill(K, 0)",
      "fillPart(K, 0, 0, 0)", "resize(K, 0)", "cut(K, 0, 0)", "turn(K, 0, 0)", "roll(K, 0)",
      "pour(K, 1)", "pour(1, K)", "sort(K)", "sortPart(K, 0, 0)", "sortPieces(K, 1)",
      "insert(K, 0)", "drop(K, 0)", "thin(K)"
    };
    for (String call : calls) {
      String name = call.substring(0, call.indexOf('('));
      StringBuilder lines = new StringBuilder("make(0, 2) -> 0\nmake(4, 2) -> 0\n");
      for (int kind : new int[] {-1, 5, 6, 256, LEAST, MOST}) {
        lines.append(call.replace("K", String.valueOf(kind)));
        lines.append(" -> IndexOutOfBoundsException\n");
      }
      Script.run(name + ": Throws IndexOutOfBoundsException if kind is not 0 to 4", lines.toString());
    }
  }

  private static void newObjects() {
    Script.run("1: Creates five empty ROWS, and no SHELF",
        """
        house(0) -> 0
        house(1) -> 0
        house(2) -> 0
        house(3) -> 0
        house(4) -> 0
        text(0, 0, 0) -> ""
        text(1, 0, 0) -> ""
        text(2, 0, 0) -> ""
        text(3, 0, 0) -> ""
        text(4, 0, 0) -> ""
        layBack(0) -> IndexOutOfBoundsException
        isSound() -> true
        """);
    String lines = "make(0, 3) -> 0\nkeep(0) -> 0\nknock() -> 1\n";
    Rowsorter one = Script.after(lines);
    Rowsorter other = new Rowsorter();
    Script.demand("1: Creates five empty ROWS", "house(1) of another one", other.house(1), 0);
    Script.demand("1: .. and no SHELF", "house(0) of another one", other.house(0), 0);
    other.pattern(0, 0, 300, 1, 1, 1);
    other.keep(0);
    String due = Script.stateOf(Script.after(lines));
    Script.demand("1: a new object", "one, after calls on another one", Script.stateOf(one), due);
  }

  private static void make() {
    Script.run("2: Makes a ROW of a SIZE, all its NUMBERS are 0",
        """
        pattern(0, 0, 300, 1, 1, 1) -> 1
        make(0, 0) -> 300
        text(0, 0, 0) -> ""
        make(0, 300) -> 0
        count(0, 0) -> 300
        fill(0, 7) -> 300
        make(0, 300) -> 300
        count(0, 0) -> 300
        pattern(0, 0, 300, 1, 1, 1) -> 1
        make(0, 1) -> 300
        text(0, 0, 1) -> "0"
        resize(0, 300) -> 1
        count(0, 0) -> 300
        """);
    Script.run("2: Returns SIZE before",
        """
        make(4, 0) -> 0
        make(4, 300) -> 0
        make(4, 300) -> 300
        make(4, 1) -> 300
        make(4, 0) -> 1
        """);
    Script.run("2: Throws IllegalArgumentException if size is not 0 to 300",
        """
        make(1, 300) -> 0
        make(1, 0) -> 300
        make(1, 2) -> 0
        make(1, 301) -> IllegalArgumentException
        make(1, -1) -> IllegalArgumentException
        make(1, 2147483647) -> IllegalArgumentException
        make(1, -2147483648) -> IllegalArgumentException
        """);
  }

  private static void pattern() {
    Script.run("3: Makes a ROW by a PATTERN",
        """
        pattern(0, 0, 300, 1, 1, 1) -> 1
        pattern(0, 0, 2, 8, 1, 1) -> 1
        ofRow(0, 0) -> 2
        resize(0, 4) -> 2
        text(0, 0, 4) -> "8,9,0,0"
        pattern(0, 6, 0, 8, 1, 1) -> 0
        ofRow(0, 0) -> 0
        """);
    Script.run("3: Returns RISING RUNS then",
        """
        pattern(0, 0, 0, 1, 1, 1) -> 0
        pattern(0, 0, 1, 1, 1, 1) -> 1
        pattern(0, 0, 300, 1, 0, 1) -> 1
        pattern(0, 0, 300, 1, -1, 1) -> 300
        pattern(3, 0, 300, 0, 1, 1) -> 2
        """);
    Script.run("3: Throws IllegalArgumentException if which is not 0 to 6",
        """
        pattern(0, 0, 1, 1, 1, 1) -> 1
        pattern(0, 6, 1, 1, 1, 1) -> 1
        pattern(0, -1, 1, 1, 1, 1) -> IllegalArgumentException
        pattern(0, 7, 1, 1, 1, 1) -> IllegalArgumentException
        pattern(0, 2147483647, 1, 1, 1, 1) -> IllegalArgumentException
        pattern(0, -2147483648, 1, 1, 1, 1) -> IllegalArgumentException
        pattern(0, 7, 0, 1, 1, 1) -> IllegalArgumentException
        """);
    Script.run("3: Throws IllegalArgumentException if .. n not 0 to 300",
        """
        pattern(0, 0, 0, 1, 1, 1) -> 0
        pattern(0, 0, 300, 1, 1, 1) -> 1
        pattern(0, 0, -1, 1, 1, 1) -> IllegalArgumentException
        pattern(0, 0, 301, 1, 1, 1) -> IllegalArgumentException
        pattern(0, 0, 2147483647, 1, 1, 1) -> IllegalArgumentException
        pattern(0, 0, -2147483648, 1, 1, 1) -> IllegalArgumentException
        """);
    Script.run("3: Throws IllegalArgumentException if .. a not -100000 to 100000",
        """
        pattern(0, 0, 1, 100000, 1, 1) -> 1
        at(0, 0) -> 100000
        pattern(0, 0, 1, -100000, 1, 1) -> 1
        at(0, 0) -> -100000
        pattern(0, 0, 1, 100001, 1, 1) -> IllegalArgumentException
        pattern(0, 0, 1, -100001, 1, 1) -> IllegalArgumentException
        pattern(0, 0, 0, 100001, 1, 1) -> IllegalArgumentException
        pattern(0, 0, 1, 2147483647, 1, 1) -> IllegalArgumentException
        pattern(0, 0, 1, -2147483648, 1, 1) -> IllegalArgumentException
        """);
    Script.run("3: Throws IllegalArgumentException if .. b not -1000 to 1000",
        """
        pattern(0, 0, 2, 0, 1000, 1) -> 1
        at(0, 1) -> 1000
        pattern(0, 0, 2, 0, -1000, 1) -> 2
        at(0, 1) -> -1000
        pattern(0, 0, 2, 0, 1001, 1) -> IllegalArgumentException
        pattern(0, 0, 2, 0, -1001, 1) -> IllegalArgumentException
        pattern(0, 0, 0, 0, -1001, 1) -> IllegalArgumentException
        pattern(0, 0, 2, 0, 2147483647, 1) -> IllegalArgumentException
        pattern(0, 0, 2, 0, -2147483648, 1) -> IllegalArgumentException
        """);
    Script.run("3: Throws IllegalArgumentException if .. c not 1 to 100",
        """
        pattern(0, 1, 101, 0, 1, 1) -> 1
        pattern(0, 1, 101, 0, 1, 100) -> 2
        pattern(0, 1, 101, 0, 1, 0) -> IllegalArgumentException
        pattern(0, 1, 101, 0, 1, -1) -> IllegalArgumentException
        pattern(0, 1, 101, 0, 1, 101) -> IllegalArgumentException
        pattern(0, 0, 2, 0, 1, 0) -> IllegalArgumentException
        pattern(0, 2, 2, 0, 1, 101) -> IllegalArgumentException
        pattern(0, 3, 0, 0, 1, 0) -> IllegalArgumentException
        pattern(0, 4, 5, 0, 1, 0) -> IllegalArgumentException
        pattern(0, 6, 5, 0, 1, 0) -> IllegalArgumentException
        pattern(0, 1, 5, 0, 1, 2147483647) -> IllegalArgumentException
        pattern(0, 4, 5, 0, 1, -2147483648) -> IllegalArgumentException
        """);
  }

  private static void set() {
    Script.run("4: Throws IndexOutOfBoundsException if .. there is no such PLACE",
        """
        set(2, 0, 7) -> IndexOutOfBoundsException
        make(2, 3) -> 0
        set(2, 0, 7) -> 0
        set(2, 2, 9) -> 0
        text(2, 0, 3) -> "7,0,9"
        set(2, 3, 7) -> IndexOutOfBoundsException
        set(2, -1, 7) -> IndexOutOfBoundsException
        set(2, 300, 7) -> IndexOutOfBoundsException
        set(2, 2147483647, 7) -> IndexOutOfBoundsException
        set(2, -2147483648, 7) -> IndexOutOfBoundsException
        make(2, 300) -> 3
        set(2, 299, 7) -> 0
        set(2, 300, 7) -> IndexOutOfBoundsException
        resize(2, 2) -> 300
        set(2, 2, 7) -> IndexOutOfBoundsException
        """);
    Script.run("4: Returns the NUMBER that was there",
        """
        make(3, 1) -> 0
        set(3, 0, 128) -> 0
        set(3, 0, -129) -> -128
        set(3, 0, 0) -> 127
        make(1, 1) -> 0
        set(1, 0, -2147483648) -> 0
        set(1, 0, 2147483647) -> -2147483648
        set(1, 0, 0) -> 2147483647
        """);
  }

  private static void swap() {
    Script.run("5: `other`: a PLACE (or the same one)",
        """
        pattern(0, 0, 3, 1, 1, 1) -> 1
        swap(0, 0, 0) -> 1
        swap(0, 2, 2) -> 1
        text(0, 0, 3) -> "1,2,3"
        make(1, 1) -> 0
        swap(1, 0, 0) -> 1
        """);
    Script.run("5: Two NUMBERS change their PLACES. .. Returns RISING RUNS then",
        """
        pattern(0, 0, 300, 1, 1, 1) -> 1
        swap(0, 0, 299) -> 3
        at(0, 0) -> 300
        at(0, 299) -> 1
        swap(0, 299, 0) -> 1
        pattern(0, 0, 2, 1, 1, 1) -> 1
        swap(0, 1, 0) -> 2
        text(0, 0, 2) -> "2,1"
        """);
    Script.run("5: Throws IndexOutOfBoundsException if .. there is no such PLACE, of one of both",
        """
        swap(0, 0, 0) -> IndexOutOfBoundsException
        pattern(0, 0, 3, 1, 1, 1) -> 1
        swap(0, 3, 0) -> IndexOutOfBoundsException
        swap(0, 0, 3) -> IndexOutOfBoundsException
        swap(0, 3, 3) -> IndexOutOfBoundsException
        swap(0, -1, 2) -> IndexOutOfBoundsException
        swap(0, 2, -1) -> IndexOutOfBoundsException
        swap(0, -1, -1) -> IndexOutOfBoundsException
        swap(0, 2147483647, 0) -> IndexOutOfBoundsException
        swap(0, 0, -2147483648) -> IndexOutOfBoundsException
        """);
  }

  private static void fill() {
    Script.run("6: Returns at how many PLACES there was another NUMBER",
        """
        fill(2, 5) -> 0
        ofRow(2, 0) -> 0
        make(2, 300) -> 0
        fill(2, 0) -> 0
        fill(2, 65536) -> 0
        fill(2, -65535) -> 300
        fill(2, 1) -> 0
        set(2, 299, 0) -> 1
        fill(2, 1) -> 1
        count(2, 1) -> 300
        """);
  }

  private static void fillPart() {
    Script.run("7: Returns at how many PLACES there was another NUMBER",
        """
        fillPart(3, 0, 0, 5) -> 0
        make(3, 300) -> 0
        fillPart(3, 0, 300, 256) -> 0
        fillPart(3, 0, 300, 5) -> 300
        fillPart(3, 299, 300, -251) -> 0
        fillPart(3, 299, 300, 6) -> 1
        fillPart(3, 300, 300, 7) -> 0
        fillPart(3, 0, 1, 6) -> 1
        count(3, 5) -> 298
        at(3, 0) -> 6
        at(3, 299) -> 6
        """);
    Script.run("7: -9, if the PART is CROSSED",
        """
        make(3, 3) -> 0
        fillPart(3, 1, 0, 5) -> -9
        fillPart(3, 3, 2, 5) -> -9
        fillPart(3, 4, 3, 5) -> -9
        fillPart(3, 400, 0, 5) -> -9
        """);
    Script.run("7: -8, if it goes BEYOND",
        """
        fillPart(3, 0, 1, 5) -> -8
        fillPart(3, 1, 1, 5) -> -8
        make(3, 3) -> 0
        fillPart(3, 0, 4, 5) -> -8
        fillPart(3, 3, 4, 5) -> -8
        fillPart(3, 4, 4, 5) -> -8
        fillPart(3, 0, 400, 5) -> -8
        fillPart(3, 400, 400, 5) -> -8
        """);
    Script.run("7: Throws IllegalArgumentException if from or to is not 0 to 400",
        """
        make(3, 3) -> 0
        fillPart(3, 400, 400, 5) -> -8
        fillPart(3, 0, 0, 5) -> 0
        fillPart(3, 401, 401, 5) -> IllegalArgumentException
        fillPart(3, 401, 0, 5) -> IllegalArgumentException
        fillPart(3, 0, 401, 5) -> IllegalArgumentException
        fillPart(3, -1, 0, 5) -> IllegalArgumentException
        fillPart(3, 0, -1, 5) -> IllegalArgumentException
        fillPart(3, -1, -1, 5) -> IllegalArgumentException
        fillPart(3, -2147483648, 2, 5) -> IllegalArgumentException
        fillPart(3, 0, 2147483647, 5) -> IllegalArgumentException
        """);
    Script.run("7: Throws IllegalArgumentException if .. the PART is CROSSED and goes BEYOND",
        """
        fillPart(3, 2, 1, 5) -> IllegalArgumentException
        make(3, 3) -> 0
        fillPart(3, 5, 4, 5) -> IllegalArgumentException
        fillPart(3, 400, 399, 5) -> IllegalArgumentException
        fillPart(3, 400, 4, 5) -> IllegalArgumentException
        fillPart(3, 400, 3, 5) -> -9
        """);
  }

  private static void resize() {
    Script.run("8: Makes a ROW longer (by NUMBERS 0 behind it) or shorter (the last ones go)",
        """
        pattern(0, 0, 3, 5, 1, 1) -> 1
        resize(0, 4) -> 3
        text(0, 0, 4) -> "5,6,7,0"
        resize(0, 2) -> 4
        text(0, 0, 2) -> "5,6"
        resize(0, 3) -> 2
        text(0, 0, 3) -> "5,6,0"
        resize(0, 3) -> 3
        text(0, 0, 3) -> "5,6,0"
        resize(0, 0) -> 3
        resize(0, 300) -> 0
        count(0, 0) -> 300
        fill(0, 7) -> 300
        resize(0, 299) -> 300
        resize(0, 300) -> 299
        at(0, 298) -> 7
        at(0, 299) -> 0
        """);
    Script.run("8: Returns SIZE before; -9, if size is -1 (nothing changes)",
        """
        resize(0, -1) -> -9
        resize(0, 0) -> 0
        resize(0, 300) -> 0
        resize(0, -1) -> -9
        resize(0, 300) -> 300
        resize(0, 0) -> 300
        """);
    Script.run("8: Throws IllegalArgumentException if size is not -1 to 300",
        """
        resize(0, 300) -> 0
        resize(0, 301) -> IllegalArgumentException
        resize(0, -2) -> IllegalArgumentException
        resize(0, 2147483647) -> IllegalArgumentException
        resize(0, -2147483648) -> IllegalArgumentException
        """);
  }

  private static void cut() {
    Script.run("9: A PART becomes the ROW, all else goes",
        """
        pattern(0, 0, 5, 5, 1, 1) -> 1
        cut(0, 0, 5) -> 5
        text(0, 0, 5) -> "5,6,7,8,9"
        cut(0, 0, 4) -> 4
        text(0, 0, 4) -> "5,6,7,8"
        cut(0, 1, 4) -> 3
        text(0, 0, 3) -> "6,7,8"
        cut(0, 2, 3) -> 1
        text(0, 0, 1) -> "8"
        cut(0, 1, 1) -> 0
        cut(0, 0, 0) -> 0
        """);
    Script.run("9: if to is above SIZE, NUMBERS 0 come behind, up to it",
        """
        cut(0, 0, 2) -> 2
        text(0, 0, 2) -> "0,0"
        pattern(0, 0, 300, 5, 1, 1) -> 1
        cut(0, 0, 3) -> 3
        cut(0, 1, 4) -> 3
        text(0, 0, 3) -> "6,7,0"
        cut(0, 0, 4) -> 4
        text(0, 0, 4) -> "6,7,0,0"
        cut(0, 4, 6) -> 2
        text(0, 0, 2) -> "0,0"
        fill(0, 9) -> 2
        cut(0, 1, 301) -> 300
        at(0, 0) -> 9
        count(0, 0) -> 299
        """);
    Script.run("9: -9, if the PART is CROSSED",
        """
        make(0, 3) -> 0
        cut(0, 1, 0) -> -9
        cut(0, 3, 2) -> -9
        cut(0, 3, 0) -> -9
        """);
    Script.run("9: -8, if from is above SIZE",
        """
        cut(0, 1, 1) -> -8
        make(0, 3) -> 0
        cut(0, 4, 4) -> -8
        cut(0, 4, 5) -> -8
        cut(0, 4, 304) -> -8
        cut(0, 400, 400) -> -8
        cut(0, 100, 400) -> -8
        cut(0, 3, 3) -> 0
        """);
    Script.run("9: Throws IllegalArgumentException if from or to is not 0 to 400",
        """
        make(0, 300) -> 0
        cut(0, 401, 401) -> IllegalArgumentException
        cut(0, 401, 300) -> IllegalArgumentException
        cut(0, 300, 401) -> IllegalArgumentException
        cut(0, -1, 3) -> IllegalArgumentException
        cut(0, 0, -1) -> IllegalArgumentException
        cut(0, -2147483648, 2147483647) -> IllegalArgumentException
        cut(0, 2147483647, -2147483648) -> IllegalArgumentException
        cut(0, 300, 400) -> 100
        """);
    Script.run("9: Throws IllegalArgumentException if .. to less from is above 300",
        """
        make(0, 5) -> 0
        cut(0, 0, 301) -> IllegalArgumentException
        cut(0, 5, 306) -> IllegalArgumentException
        cut(0, 6, 307) -> IllegalArgumentException
        cut(0, 99, 400) -> IllegalArgumentException
        cut(0, 0, 400) -> IllegalArgumentException
        cut(0, 5, 305) -> 300
        """);
    Script.run("9: Throws IllegalArgumentException if .. the PART is CROSSED and from is above SIZE",
        """
        cut(0, 1, 0) -> IllegalArgumentException
        make(0, 3) -> 0
        cut(0, 4, 3) -> IllegalArgumentException
        cut(0, 4, 0) -> IllegalArgumentException
        cut(0, 400, 399) -> IllegalArgumentException
        """);
  }

  private static void turn() {
    Script.run("10: Turns a PART: its first NUMBER is the last one of it then, and so on",
        """
        turn(0, 0, 0) -> 0
        pattern(0, 0, 5, 1, 1, 1) -> 1
        turn(0, 0, 1) -> 1
        turn(0, 4, 5) -> 1
        turn(0, 5, 5) -> 1
        text(0, 0, 5) -> "1,2,3,4,5"
        turn(0, 3, 5) -> 2
        text(0, 0, 5) -> "1,2,3,5,4"
        turn(0, 0, 3) -> 4
        text(0, 0, 5) -> "3,2,1,5,4"
        turn(0, 0, 4) -> 2
        text(0, 0, 5) -> "5,1,2,3,4"
        turn(0, 0, 5) -> 4
        text(0, 0, 5) -> "4,3,2,1,5"
        """);
    Script.run("10: Returns RISING RUNS of the ROW then",
        """
        pattern(0, 0, 300, 1, 1, 1) -> 1
        turn(0, 0, 300) -> 300
        turn(0, 1, 299) -> 3
        turn(0, 0, 0) -> 3
        """);
    Script.run("10: Throws IllegalArgumentException if from or to is not 0 to 400",
        """
        make(0, 3) -> 0
        turn(0, -1, 2) -> IllegalArgumentException
        turn(0, 0, -1) -> IllegalArgumentException
        turn(0, -1, -1) -> IllegalArgumentException
        turn(0, 0, 401) -> IllegalArgumentException
        turn(0, 401, 401) -> IllegalArgumentException
        turn(0, -2147483648, 3) -> IllegalArgumentException
        turn(0, 0, 2147483647) -> IllegalArgumentException
        """);
    Script.run("10: Throws IllegalArgumentException if .. the PART is CROSSED or goes BEYOND",
        """
        turn(0, 0, 1) -> IllegalArgumentException
        turn(0, 1, 0) -> IllegalArgumentException
        pattern(0, 0, 3, 1, 1, 1) -> 1
        turn(0, 2, 1) -> IllegalArgumentException
        turn(0, 3, 0) -> IllegalArgumentException
        turn(0, 0, 4) -> IllegalArgumentException
        turn(0, 3, 4) -> IllegalArgumentException
        turn(0, 4, 4) -> IllegalArgumentException
        turn(0, 5, 4) -> IllegalArgumentException
        turn(0, 400, 400) -> IllegalArgumentException
        turn(0, 3, 3) -> 1
        """);
  }

  private static void roll() {
    Script.run("11: to the PLACE (PLACE + by) modulo SIZE",
        """
        roll(0, 0) -> 0
        roll(0, 300) -> 0
        make(0, 1) -> 0
        set(0, 0, 7) -> 0
        roll(0, 1) -> 1
        roll(0, 300) -> 1
        at(0, 0) -> 7
        pattern(0, 0, 4, 1, 1, 1) -> 1
        roll(0, 0) -> 1
        roll(0, 4) -> 1
        text(0, 0, 4) -> "1,2,3,4"
        roll(0, 1) -> 2
        text(0, 0, 4) -> "4,1,2,3"
        roll(0, 3) -> 1
        text(0, 0, 4) -> "1,2,3,4"
        roll(0, 299) -> 2
        text(0, 0, 4) -> "2,3,4,1"
        roll(0, 5) -> 1
        roll(0, 300) -> 1
        pattern(0, 0, 300, 1, 1, 1) -> 1
        roll(0, 300) -> 1
        roll(0, 299) -> 2
        at(0, 299) -> 1
        pattern(0, 0, 299, 1, 1, 1) -> 1
        roll(0, 300) -> 2
        at(0, 0) -> 299
        """);
    Script.run("11: Throws IllegalArgumentException if by is not 0 to 300",
        """
        roll(0, 301) -> IllegalArgumentException
        pattern(0, 0, 4, 1, 1, 1) -> 1
        roll(0, -1) -> IllegalArgumentException
        roll(0, 301) -> IllegalArgumentException
        roll(0, 2147483647) -> IllegalArgumentException
        roll(0, -2147483648) -> IllegalArgumentException
        """);
  }

  private static void pour() {
    Script.run("12: another one, which has just these then",
        """
        make(1, 300) -> 0
        pour(0, 1) -> 0
        ofRow(1, 0) -> 0
        pattern(0, 0, 300, 1, 1, 1) -> 1
        pour(0, 1) -> 300
        at(1, 299) -> 300
        at(0, 299) -> 300
        pattern(0, 0, 2, 8, 1, 1) -> 1
        pour(0, 1) -> 2
        text(1, 0, 2) -> "24000000152,27000000171"
        text(0, 0, 2) -> "8,9"
        """);
    Script.run("12: the ints by which they are told are TURNED into its KIND",
        """
        make(1, 4) -> 0
        set(1, 0, 2147483647) -> 0
        set(1, 1, -2147483648) -> 0
        set(1, 2, 32768) -> 0
        set(1, 3, -129) -> 0
        pour(1, 0) -> 4
        text(0, 0, 4) -> "2147483647,-2147483648,32768,-129"
        pour(1, 2) -> 4
        text(2, 0, 4) -> "65535,0,32768,65407"
        pour(1, 3) -> 4
        text(3, 0, 4) -> "-1,0,0,127"
        pour(1, 4) -> 4
        text(4, 0, 4) -> "-1,0,-32768,-129"
        pour(2, 4) -> 4
        text(4, 0, 4) -> "-1,0,-32768,-129"
        pour(4, 2) -> 4
        text(2, 0, 4) -> "65535,0,32768,65407"
        pour(3, 2) -> 4
        text(2, 0, 4) -> "65535,0,0,127"
        """);
    Script.run("12: Throws IndexOutOfBoundsException if kind or other is not 0 to 4",
        """
        make(0, 1) -> 0
        pour(0, 4) -> 1
        pour(4, 0) -> 1
        pour(0, 5) -> IndexOutOfBoundsException
        pour(5, 0) -> IndexOutOfBoundsException
        pour(0, -1) -> IndexOutOfBoundsException
        pour(-1, 0) -> IndexOutOfBoundsException
        pour(5, 5) -> IndexOutOfBoundsException
        pour(2147483647, 2147483647) -> IndexOutOfBoundsException
        """);
    Script.run("12: Throws IllegalArgumentException if both are the same",
        """
        make(3, 2) -> 0
        pour(0, 0) -> IllegalArgumentException
        pour(3, 3) -> IllegalArgumentException
        pour(4, 4) -> IllegalArgumentException
        """);
  }

  private static void sort() {
    Script.run("13: Returns at how many PLACES there is another NUMBER then",
        """
        sort(0) -> 0
        make(0, 1) -> 0
        sort(0) -> 0
        make(0, 300) -> 1
        sort(0) -> 0
        pattern(0, 0, 300, 1, 1, 1) -> 1
        sort(0) -> 0
        pattern(0, 0, 300, 1, -1, 1) -> 300
        sort(0) -> 300
        pattern(0, 0, 299, 1, -1, 1) -> 299
        sort(0) -> 298
        make(0, 2) -> 299
        set(0, 0, 2147483647) -> 0
        set(0, 1, -2147483648) -> 0
        sort(0) -> 2
        text(0, 0, 2) -> "-2147483648,2147483647"
        """);
  }

  private static void sortPart() {
    Script.run("14: SORTS a PART. .. Returns at how many PLACES there is another NUMBER then",
        """
        sortPart(0, 0, 0) -> 0
        pattern(0, 0, 300, 300, -1, 1) -> 300
        sortPart(0, 300, 300) -> 0
        sortPart(0, 299, 300) -> 0
        sortPart(0, 298, 300) -> 2
        at(0, 297) -> 3
        at(0, 298) -> 1
        at(0, 299) -> 2
        sortPart(0, 0, 2) -> 2
        at(0, 0) -> 299
        at(0, 1) -> 300
        at(0, 2) -> 298
        sortPart(0, 3, 6) -> 2
        sortPart(0, 0, 300) -> 300
        """);
    Script.run("14: -9, if the PART is CROSSED",
        """
        pattern(0, 0, 3, 3, -1, 1) -> 3
        sortPart(0, 1, 0) -> -9
        sortPart(0, 3, 2) -> -9
        sortPart(0, 4, 3) -> -9
        sortPart(0, 400, 3) -> -9
        """);
    Script.run("14: -8, if it goes BEYOND",
        """
        sortPart(0, 0, 1) -> -8
        pattern(0, 0, 3, 3, -1, 1) -> 3
        sortPart(0, 0, 4) -> -8
        sortPart(0, 4, 4) -> -8
        sortPart(0, 0, 400) -> -8
        sortPart(0, 400, 400) -> -8
        """);
    Script.run("14: Throws IllegalArgumentException if from or to is not 0 to 400",
        """
        pattern(0, 0, 3, 3, -1, 1) -> 3
        sortPart(0, -1, 3) -> IllegalArgumentException
        sortPart(0, 3, -1) -> IllegalArgumentException
        sortPart(0, 401, 401) -> IllegalArgumentException
        sortPart(0, 401, 0) -> IllegalArgumentException
        sortPart(0, 0, 401) -> IllegalArgumentException
        sortPart(0, -2147483648, 3) -> IllegalArgumentException
        sortPart(0, 0, 2147483647) -> IllegalArgumentException
        """);
    Script.run("14: Throws IllegalArgumentException if .. the PART is CROSSED and goes BEYOND",
        """
        sortPart(0, 2, 1) -> IllegalArgumentException
        pattern(0, 0, 3, 3, -1, 1) -> 3
        sortPart(0, 5, 4) -> IllegalArgumentException
        sortPart(0, 400, 4) -> IllegalArgumentException
        sortPart(0, 400, 399) -> IllegalArgumentException
        """);
  }

  private static void sortPieces() {
    Script.run("15: the PARTS of so many PLACES from 0 on, the last one as long as it is",
        """
        pattern(0, 0, 5, 5, -1, 1) -> 5
        sortPieces(0, 1) -> 5
        text(0, 0, 5) -> "5,4,3,2,1"
        sortPieces(0, 2) -> 3
        text(0, 0, 5) -> "4,5,2,3,1"
        pattern(0, 0, 5, 5, -1, 1) -> 5
        sortPieces(0, 4) -> 2
        text(0, 0, 5) -> "2,3,4,5,1"
        sortPieces(0, 5) -> 1
        text(0, 0, 5) -> "1,2,3,4,5"
        pattern(0, 0, 5, 5, -1, 1) -> 5
        sortPieces(0, 6) -> 1
        text(0, 0, 5) -> "1,2,3,4,5"
        """);
    Script.run("15: Returns how many PARTS these were (0, if SIZE is 0)",
        """
        sortPieces(0, 1) -> 0
        sortPieces(0, 300) -> 0
        make(0, 1) -> 0
        sortPieces(0, 1) -> 1
        sortPieces(0, 300) -> 1
        make(0, 300) -> 1
        sortPieces(0, 1) -> 300
        sortPieces(0, 299) -> 2
        sortPieces(0, 300) -> 1
        sortPieces(0, 150) -> 2
        sortPieces(0, 149) -> 3
        """);
    Script.run("15: Throws IllegalArgumentException if width is not 1 to 300",
        """
        sortPieces(0, 0) -> IllegalArgumentException
        pattern(0, 0, 3, 3, -1, 1) -> 3
        sortPieces(0, 0) -> IllegalArgumentException
        sortPieces(0, -1) -> IllegalArgumentException
        sortPieces(0, 301) -> IllegalArgumentException
        sortPieces(0, 2147483647) -> IllegalArgumentException
        sortPieces(0, -2147483648) -> IllegalArgumentException
        """);
  }

  private static void insert() {
    Script.run("16: ahead of all that are like it. .. Returns its PLACE",
        """
        insert(0, 5) -> 0
        insert(0, 5) -> 0
        insert(0, 5) -> 0
        insert(0, 9) -> 3
        insert(0, 9) -> 3
        insert(0, 10) -> 5
        insert(0, 4) -> 0
        insert(0, 5) -> 1
        insert(0, 7) -> 5
        text(0, 0, 9) -> "4,5,5,5,5,7,9,9,10"
        insert(0, -2147483648) -> 0
        insert(0, 2147483647) -> 10
        text(0, 0, 11) -> "-2147483648,4,5,5,5,5,7,9,9,10,2147483647"
        """);
    Script.run("16: Puts a NUMBER: of a KIND that is TURNED",
        """
        insert(3, 127) -> 0
        insert(3, 128) -> 0
        insert(3, 256) -> 1
        text(3, 0, 3) -> "-128,0,127"
        """);
    Script.run("16: Throws IllegalStateException if the ROW is not SORTED",
        """
        pattern(0, 0, 2, 3, -1, 1) -> 2
        insert(0, 4) -> IllegalStateException
        insert(0, 1) -> IllegalStateException
        make(0, 2) -> 2
        insert(0, 0) -> 0
        insert(0, 1) -> 3
        set(0, 0, 1) -> 0
        insert(0, 4) -> IllegalStateException
        """);
    Script.run("16: Throws IllegalStateException if .. SIZE is 300",
        """
        make(0, 299) -> 0
        insert(0, 1) -> 299
        ofRow(0, 0) -> 300
        insert(0, 1) -> IllegalStateException
        insert(0, -1) -> IllegalStateException
        drop(0, 0) -> 0
        insert(0, -1) -> 0
        insert(0, -1) -> IllegalStateException
        """);
  }

  private static void drop() {
    Script.run("17: the first one that is like it. .. Returns the PLACE where it was",
        """
        pattern(0, 0, 4, 1, 1, 1) -> 1
        fillPart(0, 1, 3, 2) -> 1
        drop(0, 2) -> 1
        text(0, 0, 3) -> "1,2,4"
        drop(0, 4) -> 2
        drop(0, 1) -> 0
        drop(0, 2) -> 0
        ofRow(0, 0) -> 0
        make(0, 300) -> 0
        drop(0, 0) -> 0
        ofRow(0, 0) -> 299
        pattern(1, 0, 300, 1, 1, 1) -> 1
        drop(1, 300) -> 299
        drop(1, 150) -> 149
        at(1, 149) -> 151
        at(1, 297) -> 299
        ofRow(1, 0) -> 298
        """);
    Script.run("17: if it is not there, what a SEARCH tells (nothing changes)",
        """
        drop(0, 1) -> -1
        make(0, 1) -> 0
        drop(0, -1) -> -1
        drop(0, 1) -> -2
        drop(0, 0) -> 0
        drop(0, 0) -> -1
        make(0, 300) -> 0
        drop(0, 1) -> -301
        drop(0, -2147483648) -> -1
        drop(0, 2147483647) -> -301
        """);
    Script.run("17: Throws IllegalStateException if the ROW is not SORTED",
        """
        pattern(0, 0, 2, 3, -1, 1) -> 2
        drop(0, 3) -> IllegalStateException
        drop(0, 9) -> IllegalStateException
        """);
  }

  private static void thin() {
    Script.run("18: Takes all NUMBERS out of a SORTED ROW that are like the one ahead of them",
        """
        pattern(0, 1, 6, 1, 1, 2) -> 3
        sort(0) -> 2
        text(0, 0, 6) -> "1,1,1,2,2,2"
        thin(0) -> 4
        text(0, 0, 2) -> "1,2"
        ofRow(0, 0) -> 2
        """);
    Script.run("18: Returns how many are out",
        """
        thin(0) -> 0
        make(0, 1) -> 0
        thin(0) -> 0
        make(0, 2) -> 1
        thin(0) -> 1
        thin(0) -> 0
        make(0, 300) -> 1
        thin(0) -> 299
        pattern(0, 0, 300, 1, 1, 1) -> 1
        thin(0) -> 0
        ofRow(0, 0) -> 300
        """);
    Script.run("18: Throws IllegalStateException if the ROW is not SORTED",
        """
        pattern(0, 0, 2, 3, -1, 1) -> 2
        thin(0) -> IllegalStateException
        pattern(0, 1, 4, 3, 1, 2) -> 2
        thin(0) -> IllegalStateException
        """);
  }
}
