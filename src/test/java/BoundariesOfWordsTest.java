/**
 * The sentences of the document's "Description" that name a boundary case, each with a script of
 * its own (see {@link Script}) that would fail if the sentence were broken.
 */
public final class BoundariesOfWordsTest {

  public static void main(String[] args) {
    anObject();
    reckoning();
    exceptions();
    kinds();
    rowsAndParts();
    sortedRows();
    searches();
    patterns();
    shelves();
    Script.end();
  }

  // ---- what stands ahead of the sections

  private static void anObject() {
    StringBuilder knocks = new StringBuilder();
    for (int often = 1; often <= 511; often++) {
      knocks.append("knock() -> ").append(often).append('\n');
    }
    Rowsorter x = Script.after(knocks.toString());
    Script.demand("An object is used for at most 512 calls", "the 512th knock()", x.knock(), 512);
  }

  private static void reckoning() {
    Script.run("what is divided is rounded down: k / 3 of few unlike ones",
        """
        pattern(0, 3, 7, 0, 1, 100) -> 1
        text(0, 0, 7) -> "0,7,14,22,29,36,44"
        """);
    Script.run("what is divided is rounded down: k / c of to and fro",
        """
        pattern(0, 6, 7, 0, 0, 3) -> 1
        text(0, 0, 7) -> "0,0,0,1,1,1,2"
        """);
    Script.run("where one of several is taken .., it is that with the smallest number",
        """
        make(0, 3) -> 0
        find(0, 0) -> 0
        findPart(0, 1, 3, 0) -> 1
        wouldFind(0, 0) -> 0
        drop(0, 0) -> 0
        pattern(3, 1, 4, 5, -2, 2) -> 3
        mode(3) -> 3
        """);
    Script.run("Modulo is never below 0: of mixed ones",
        """
        pattern(0, 5, 1, -1, 0, 1) -> 1
        at(0, 0) -> 32768
        pattern(0, 5, 1, -65536, 0, 1) -> 1
        at(0, 0) -> -32767
        pattern(0, 5, 1, -65537, 0, 1) -> 1
        at(0, 0) -> -32768
        pattern(0, 5, 1, -65538, 0, 1) -> 1
        at(0, 0) -> 32768
        pattern(0, 5, 1, -100000, 0, 1) -> 1
        at(0, 0) -> -1694
        """);
    Script.run("Modulo is never below 0: of CHAR",
        """
        make(2, 1) -> 0
        set(2, 0, -1) -> 0
        at(2, 0) -> 65535
        set(2, 0, -65536) -> 65535
        at(2, 0) -> 0
        set(2, 0, -65537) -> 0
        at(2, 0) -> 65535
        """);
  }

  // ---- exceptions

  /** Five rows, of which 0 is not SORTED and 2 is full, and six SHELVES. */
  private static final String A_FULL_HOUSE =
      """
      pattern(0, 2, 5, 10, 1, 1) -> 3
      pattern(1, 0, 3, -1, 1, 1) -> 1
      pattern(2, 0, 300, 9, 3, 1) -> 1
      pattern(3, 1, 7, 120, 3, 4) -> 2
      keep(0) -> 0
      keep(1) -> 1
      keep(2) -> 2
      keep(3) -> 3
      keep(4) -> 4
      keep(2) -> 5
      knock() -> 1
      """;

  private static void exceptions() {
    Script.run("A method that throws an exception changes nothing: rows",
        A_FULL_HOUSE
            + """
            make(0, 301) -> IllegalArgumentException
            pattern(0, 0, 2, 0, 0, 0) -> IllegalArgumentException
            pattern(0, 5, 301, 0, 0, 1) -> IllegalArgumentException
            set(0, 5, 77) -> IndexOutOfBoundsException
            swap(0, 0, 5) -> IndexOutOfBoundsException
            swap(0, 5, 0) -> IndexOutOfBoundsException
            fill(5, 77) -> IndexOutOfBoundsException
            fillPart(0, 0, 401, 77) -> IllegalArgumentException
            fillPart(0, 7, 6, 77) -> IllegalArgumentException
            resize(0, 301) -> IllegalArgumentException
            cut(0, 0, 301) -> IllegalArgumentException
            cut(0, 7, 6) -> IllegalArgumentException
            turn(0, 0, 6) -> IllegalArgumentException
            turn(0, 4, 1) -> IllegalArgumentException
            roll(0, 301) -> IllegalArgumentException
            pour(0, 0) -> IllegalArgumentException
            pour(0, 5) -> IndexOutOfBoundsException
            pour(5, 0) -> IndexOutOfBoundsException
            """);
    Script.run("A method that throws an exception changes nothing: rows in order, shelves",
        A_FULL_HOUSE
            + """
            sort(5) -> IndexOutOfBoundsException
            sortPart(0, 7, 6) -> IllegalArgumentException
            sortPart(0, 0, 401) -> IllegalArgumentException
            sortPieces(0, 0) -> IllegalArgumentException
            insert(0, 77) -> IllegalStateException
            insert(2, 77) -> IllegalStateException
            drop(0, 10) -> IllegalStateException
            thin(0) -> IllegalStateException
            keep(0) -> IllegalStateException
            keepPart(0, 1, 3) -> IllegalStateException
            layBack(6) -> IndexOutOfBoundsException
            sortShelf(6) -> IndexOutOfBoundsException
            merge(2) -> IllegalStateException
            throwAway(6) -> IndexOutOfBoundsException
            """);
    Script.run("If several exceptions apply, the one that is named first is thrown: of KINDS",
        """
        make(5, 301) -> IndexOutOfBoundsException
        pattern(5, 7, 301, 100001, 1001, 0) -> IndexOutOfBoundsException
        fillPart(5, 401, -1, 0) -> IndexOutOfBoundsException
        resize(5, 301) -> IndexOutOfBoundsException
        cut(5, 0, 301) -> IndexOutOfBoundsException
        turn(5, 2, 1) -> IndexOutOfBoundsException
        roll(5, 301) -> IndexOutOfBoundsException
        pour(5, 5) -> IndexOutOfBoundsException
        pour(-1, -1) -> IndexOutOfBoundsException
        sortPart(5, 401, -1) -> IndexOutOfBoundsException
        sortPieces(5, 0) -> IndexOutOfBoundsException
        keepPart(5, 0, 301) -> IndexOutOfBoundsException
        ofRow(5, 5) -> IndexOutOfBoundsException
        text(5, 0, 41) -> IndexOutOfBoundsException
        findPart(5, 401, -1, 0) -> IndexOutOfBoundsException
        ordered(5, 0, 41) -> IndexOutOfBoundsException
        top(5, 41) -> IndexOutOfBoundsException
        would(5, 4) -> IndexOutOfBoundsException
        """);
    Script.run("If several exceptions apply, the one that is named first is thrown: of SHELVES",
        """
        ofShelf(0, 3) -> IndexOutOfBoundsException
        shared(0, 3) -> IndexOutOfBoundsException
        """);
    Script.run("If several exceptions apply, the one that is named first is thrown: of states",
        A_FULL_HOUSE
            + """
            keep(5) -> IndexOutOfBoundsException
            keepPart(5, 0, 301) -> IndexOutOfBoundsException
            keepPart(0, 0, 301) -> IllegalArgumentException
            keepPart(0, 7, 6) -> IllegalArgumentException
            keepPart(0, 0, 401) -> IllegalArgumentException
            findPart(0, -1, 5, 10) -> IllegalArgumentException
            findPart(0, 0, 401, 10) -> IllegalArgumentException
            """);
    Script.run("Exceptions go ahead of the numbers -9 and -8",
        """
        make(0, 5) -> 0
        resize(5, -1) -> IndexOutOfBoundsException
        fillPart(5, 3, 2, 0) -> IndexOutOfBoundsException
        fillPart(0, 401, 3, 0) -> IllegalArgumentException
        fillPart(0, 3, -1, 0) -> IllegalArgumentException
        fillPart(0, 3, 401, 0) -> IllegalArgumentException
        cut(5, 3, 2) -> IndexOutOfBoundsException
        cut(0, 401, 3) -> IllegalArgumentException
        cut(0, 3, -1) -> IllegalArgumentException
        cut(0, 6, 307) -> IllegalArgumentException
        sortPart(5, 3, 2) -> IndexOutOfBoundsException
        sortPart(0, 401, 3) -> IllegalArgumentException
        sortPart(0, 3, -1) -> IllegalArgumentException
        sortPart(0, 3, 401) -> IllegalArgumentException
        keepPart(5, 3, 2) -> IndexOutOfBoundsException
        keepPart(0, 401, 3) -> IllegalArgumentException
        keepPart(0, 3, -1) -> IllegalArgumentException
        keepPart(0, 6, 307) -> IllegalArgumentException
        """);
    Script.run("Exceptions go ahead of the numbers -9 and -8: keepPart with six SHELVES",
        A_FULL_HOUSE
            + """
            keepPart(0, 3, 2) -> IllegalStateException
            keepPart(0, 6, 6) -> IllegalStateException
            """);
    Script.run("Exceptions go ahead of the numbers .. -1009 and -1008",
        """
        make(0, 5) -> 0
        findPart(5, 3, 2, 0) -> IndexOutOfBoundsException
        findPart(5, 3, 6, 0) -> IndexOutOfBoundsException
        findPart(0, 401, 3, 0) -> IllegalArgumentException
        findPart(0, 3, -1, 0) -> IllegalArgumentException
        findPart(0, 3, 401, 0) -> IllegalArgumentException
        findPart(0, 7, 6, 0) -> IllegalArgumentException
        """);
  }

  // ---- 1. Kinds and numbers

  private static void kinds() {
    Script.run("KINDS 0 to 4",
        """
        make(0, 1) -> 0
        make(1, 1) -> 0
        make(2, 1) -> 0
        make(3, 1) -> 0
        make(4, 1) -> 0
        make(-1, 1) -> IndexOutOfBoundsException
        make(5, 1) -> IndexOutOfBoundsException
        make(2147483647, 1) -> IndexOutOfBoundsException
        make(-2147483648, 1) -> IndexOutOfBoundsException
        """);
    Script.run("INT: it is that",
        """
        make(0, 3) -> 0
        set(0, 0, 2147483647) -> 0
        set(0, 1, -2147483648) -> 0
        set(0, 2, 65536) -> 0
        text(0, 0, 3) -> "2147483647,-2147483648,65536"
        """);
    Script.run("LONG: it is that times 3000000019 (.. far beyond the ints)",
        """
        make(1, 4) -> 0
        set(1, 0, 2147483647) -> 0
        set(1, 1, -2147483648) -> 0
        set(1, 2, 1) -> 0
        set(1, 3, -1) -> 0
        text(1, 0, 4) -> "6442450981802189293,-6442450984802189312,3000000019,-3000000019"
        """);
    Script.run("CHAR: that modulo 65536 (0 to 65535)",
        """
        make(2, 8) -> 0
        set(2, 0, 65535) -> 0
        set(2, 1, 65536) -> 0
        set(2, 2, 65537) -> 0
        set(2, 3, -1) -> 0
        set(2, 4, -65535) -> 0
        set(2, 5, 131071) -> 0
        set(2, 6, 2147483647) -> 0
        set(2, 7, -2147483648) -> 0
        text(2, 0, 8) -> "65535,0,1,65535,1,65535,65535,0"
        """);
    Script.run("BYTE: .. if 256 is added or taken away till it is -128 to 127",
        """
        make(3, 10) -> 0
        set(3, 0, 127) -> 0
        set(3, 1, 128) -> 0
        set(3, 2, -128) -> 0
        set(3, 3, -129) -> 0
        set(3, 4, 255) -> 0
        set(3, 5, 256) -> 0
        set(3, 6, 384) -> 0
        set(3, 7, -385) -> 0
        set(3, 8, 2147483647) -> 0
        set(3, 9, -2147483648) -> 0
        text(3, 0, 10) -> "127,-128,-128,127,-1,0,-128,127,-1,0"
        """);
    Script.run("SHORT: likewise with 65536, -32768 to 32767",
        """
        make(4, 10) -> 0
        set(4, 0, 32767) -> 0
        set(4, 1, 32768) -> 0
        set(4, 2, -32768) -> 0
        set(4, 3, -32769) -> 0
        set(4, 4, 65535) -> 0
        set(4, 5, 65536) -> 0
        set(4, 6, 98304) -> 0
        set(4, 7, -98305) -> 0
        set(4, 8, 2147483647) -> 0
        set(4, 9, -2147483648) -> 0
        text(4, 0, 10) -> "32767,-32768,-32768,32767,-1,0,-32768,32767,-1,0"
        """);
    Script.run("Where a method tells a NUMBER as an int, it is that by which it is told",
        """
        make(1, 3) -> 0
        set(1, 0, 2147483647) -> 0
        set(1, 1, -2147483648) -> 0
        set(1, 0, 2147483647) -> 2147483647
        set(1, 1, -2147483648) -> -2147483648
        at(1, 0) -> 2147483647
        at(1, 1) -> -2147483648
        nth(1, 0) -> -2147483648
        nth(1, 2) -> 2147483647
        mode(1) -> -2147483648
        keep(1) -> 0
        onShelf(0, 0) -> 2147483647
        onShelf(0, 1) -> -2147483648
        make(2, 1) -> 0
        set(2, 0, -1) -> 0
        at(2, 0) -> 65535
        set(2, 0, 5) -> 65535
        """);
    Script.run("In texts NUMBERS stand whole (a LONG with all its digits ..)",
        """
        make(1, 3) -> 0
        set(1, 0, -2147483648) -> 0
        set(1, 2, 2147483647) -> 0
        text(1, 0, 3) -> "-6442450984802189312,0,6442450981802189293"
        ordered(1, 0, 3) -> "-6442450984802189312,0,6442450981802189293"
        top(1, 3) -> "6442450981802189293,0,-6442450984802189312"
        make(0, 3) -> 0
        set(0, 0, -2147483648) -> 0
        set(0, 2, 2147483647) -> 0
        text(0, 0, 3) -> "-2147483648,0,2147483647"
        ordered(0, 0, 3) -> "-2147483648,0,2147483647"
        top(0, 3) -> "2147483647,0,-2147483648"
        """);
    Script.run("NUMBERS of one KIND are in the order of their values",
        """
        make(0, 3) -> 0
        set(0, 0, 2147483647) -> 0
        set(0, 1, -2147483648) -> 0
        ordered(0, 0, 3) -> "-2147483648,0,2147483647"
        make(1, 3) -> 0
        set(1, 0, 2147483647) -> 0
        set(1, 1, -2147483648) -> 0
        ordered(1, 0, 3) -> "-6442450984802189312,0,6442450981802189293"
        make(2, 3) -> 0
        set(2, 0, -1) -> 0
        set(2, 1, 65536) -> 0
        set(2, 2, 32768) -> 0
        ordered(2, 0, 3) -> "0,32768,65535"
        make(3, 3) -> 0
        set(3, 0, 127) -> 0
        set(3, 1, 128) -> 0
        ordered(3, 0, 3) -> "-128,0,127"
        make(4, 3) -> 0
        set(4, 0, 32767) -> 0
        set(4, 1, 32768) -> 0
        ordered(4, 0, 3) -> "-32768,0,32767"
        """);
  }

  // ---- 2. Rows and parts

  private static void rowsAndParts() {
    Script.run("It has a SIZE (0 to 300; 0 at first)",
        """
        ofRow(0, 0) -> 0
        ofRow(1, 0) -> 0
        ofRow(2, 0) -> 0
        ofRow(3, 0) -> 0
        ofRow(4, 0) -> 0
        make(0, 300) -> 0
        make(1, 300) -> 0
        make(2, 300) -> 0
        make(3, 300) -> 0
        make(4, 300) -> 0
        ofRow(4, 0) -> 300
        house(1) -> 1500
        """);
    Script.run("PLACES 0 to SIZE less 1",
        """
        at(0, 0) -> IndexOutOfBoundsException
        make(0, 1) -> 0
        at(0, 0) -> 0
        at(0, 1) -> IndexOutOfBoundsException
        at(0, -1) -> IndexOutOfBoundsException
        make(0, 300) -> 1
        at(0, 299) -> 0
        at(0, 300) -> IndexOutOfBoundsException
        resize(0, 299) -> 300
        at(0, 299) -> IndexOutOfBoundsException
        """);
    Script.run("A PART is told by from and to, 0 to 400 each",
        """
        make(0, 3) -> 0
        sortPart(0, 0, 0) -> 0
        sortPart(0, 400, 400) -> -8
        sortPart(0, 400, 0) -> -9
        sortPart(0, 401, 401) -> IllegalArgumentException
        sortPart(0, 401, 0) -> IllegalArgumentException
        sortPart(0, 0, 401) -> IllegalArgumentException
        sortPart(0, -1, 0) -> IllegalArgumentException
        sortPart(0, 0, -1) -> IllegalArgumentException
        sortPart(0, 2147483647, 0) -> IllegalArgumentException
        sortPart(0, 0, 2147483647) -> IllegalArgumentException
        sortPart(0, -2147483648, 0) -> IllegalArgumentException
        sortPart(0, 0, -2147483648) -> IllegalArgumentException
        """);
    Script.run("the PLACES from from on, ahead of to",
        """
        make(0, 4) -> 0
        fillPart(0, 1, 3, 7) -> 2
        text(0, 0, 4) -> "0,7,7,0"
        fillPart(0, 3, 4, 8) -> 1
        text(0, 0, 4) -> "0,7,7,8"
        fillPart(0, 0, 1, 9) -> 1
        text(0, 0, 4) -> "9,7,7,8"
        """);
    Script.run("It is CROSSED, if from is above to",
        """
        make(0, 3) -> 0
        fillPart(0, 2, 2, 7) -> 0
        fillPart(0, 3, 3, 7) -> 0
        fillPart(0, 2, 1, 7) -> -9
        fillPart(0, 1, 0, 7) -> -9
        fillPart(0, 4, 3, 7) -> -9
        fillPart(0, 1, 2, 7) -> 1
        """);
    Script.run("it goes BEYOND, if to is above SIZE",
        """
        fillPart(0, 0, 0, 7) -> 0
        fillPart(0, 0, 1, 7) -> -8
        make(0, 3) -> 0
        fillPart(0, 3, 4, 7) -> -8
        fillPart(0, 4, 4, 7) -> -8
        fillPart(0, 0, 3, 7) -> 3
        make(0, 300) -> 3
        fillPart(0, 299, 301, 7) -> -8
        fillPart(0, 299, 300, 7) -> 1
        """);
    Script.run("With from as to it is empty",
        """
        pattern(0, 0, 3, 3, -1, 1) -> 3
        fillPart(0, 1, 1, 7) -> 0
        turn(0, 2, 2) -> 3
        sortPart(0, 0, 0) -> 0
        sortPart(0, 3, 3) -> 0
        text(0, 2, 2) -> ""
        ordered(0, 3, 3) -> ""
        findPart(0, 2, 2, 1) -> -3
        text(0, 0, 3) -> "3,2,1"
        keepPart(0, 1, 1) -> 0
        ofShelf(0, 1) -> 0
        cut(0, 1, 1) -> 0
        ofRow(0, 0) -> 0
        """);
  }

  private static void sortedRows() {
    Script.run("SORTED, if no NUMBER of it is smaller than the one ahead of it",
        """
        ofRow(0, 1) -> 1
        make(0, 1) -> 0
        ofRow(0, 1) -> 1
        make(0, 2) -> 1
        ofRow(0, 1) -> 1
        set(0, 1, 1) -> 0
        ofRow(0, 1) -> 1
        set(0, 1, -1) -> 1
        ofRow(0, 1) -> 0
        set(0, 0, -2147483648) -> 0
        set(0, 1, 2147483647) -> -1
        ofRow(0, 1) -> 1
        swap(0, 0, 1) -> 2
        ofRow(0, 1) -> 0
        """);
    Script.run("SORTED, if no NUMBER of it is smaller than the one ahead of it in it: a PART",
        """
        pattern(0, 1, 4, 1, 1, 2) -> 2
        findPart(0, 0, 2, 1) -> 0
        findPart(0, 2, 4, 1) -> 2
        findPart(0, 1, 3, 1) -> IllegalStateException
        findPart(0, 2, 3, 1) -> 2
        """);
    Script.run("RISING RUNS .. as long as can be, that are SORTED (0, if SIZE is 0)",
        """
        ofRow(0, 2) -> 0
        make(0, 1) -> 0
        ofRow(0, 2) -> 1
        make(0, 300) -> 1
        ofRow(0, 2) -> 1
        pattern(0, 0, 300, 0, -1, 1) -> 300
        pattern(0, 1, 6, 0, 1, 2) -> 3
        pattern(0, 3, 0, 0, 1, 2) -> 0
        """);
    Script.run("To SORT ..: its NUMBERS, each as often as it is there, .. in rising order then",
        """
        sort(0) -> 0
        ofRow(0, 0) -> 0
        make(0, 1) -> 0
        sort(0) -> 0
        pattern(0, 1, 7, 2, -1, 3) -> 5
        sort(0) -> 6
        text(0, 0, 7) -> "0,0,1,1,2,2,2"
        pattern(0, 5, 300, 1, 0, 1) -> 148
        sort(0) -> 298
        ofRow(0, 0) -> 300
        ofRow(0, 4) -> 0
        """);
  }

  private static void searches() {
    Script.run("To SEARCH ..: if it is there, the smallest PLACE at which it is",
        """
        pattern(0, 0, 9, 0, 1, 1) -> 1
        fillPart(0, 2, 7, 4) -> 4
        text(0, 0, 9) -> "0,1,4,4,4,4,4,7,8"
        find(0, 4) -> 2
        find(0, 0) -> 0
        find(0, 8) -> 8
        findPart(0, 3, 7, 4) -> 3
        findPart(0, 6, 9, 4) -> 6
        findPart(0, 6, 7, 4) -> 6
        make(1, 300) -> 0
        find(1, 0) -> 0
        findPart(1, 299, 300, 0) -> 299
        """);
    Script.run("otherwise -1 less the PLACE at which it would come: from, and 1 more for each ..",
        """
        find(0, 4) -> -1
        findPart(0, 0, 0, 4) -> -1
        pattern(0, 0, 5, 10, 10, 1) -> 1
        find(0, 9) -> -1
        find(0, 11) -> -2
        find(0, 49) -> -5
        find(0, 51) -> -6
        findPart(0, 2, 4, 10) -> -3
        findPart(0, 2, 4, 35) -> -4
        findPart(0, 2, 4, 50) -> -5
        findPart(0, 5, 5, 10) -> -6
        findPart(0, 3, 3, 40) -> -4
        find(0, -2147483648) -> -1
        find(0, 2147483647) -> -6
        make(1, 300) -> 0
        find(1, 1) -> -301
        findPart(1, 300, 300, 0) -> -301
        """);
  }

  // ---- 3. Patterns

  private static void patterns() {
    Script.run("for each k from 0 to n less 1",
        """
        pattern(0, 0, 0, 5, 1, 1) -> 0
        ofRow(0, 0) -> 0
        pattern(0, 0, 1, 5, 1, 1) -> 1
        text(0, 0, 1) -> "5"
        pattern(0, 0, 300, 5, 1, 1) -> 1
        at(0, 0) -> 5
        at(0, 299) -> 304
        ofRow(0, 0) -> 300
        """);
    Script.run("an int, TURNED into the KIND",
        """
        pattern(0, 0, 300, 100000, 1000, 1) -> 1
        at(0, 299) -> 399000
        pattern(1, 0, 300, -100000, -1000, 1) -> 300
        text(1, 299, 300) -> "-1197000007581000"
        pattern(2, 0, 3, 65534, 1, 1) -> 2
        text(2, 0, 3) -> "65534,65535,0"
        pattern(3, 0, 3, 126, 1, 1) -> 2
        text(3, 0, 3) -> "126,127,-128"
        pattern(4, 0, 3, -32767, -1, 1) -> 2
        text(4, 0, 3) -> "-32767,-32768,32767"
        """);
    Script.run("1 a saw: a + b * (k modulo c)",
        """
        pattern(0, 1, 3, 7, 5, 1) -> 1
        text(0, 0, 3) -> "7,7,7"
        pattern(0, 1, 101, 7, 5, 100) -> 2
        at(0, 99) -> 502
        at(0, 100) -> 7
        pattern(0, 1, 3, 7, 5, 3) -> 1
        text(0, 0, 3) -> "7,12,17"
        """);
    Script.run("2 an organ pipe: .. the smaller one of k and n - 1 - k",
        """
        pattern(0, 2, 0, 7, 5, 1) -> 0
        pattern(0, 2, 1, 7, 5, 1) -> 1
        text(0, 0, 1) -> "7"
        pattern(0, 2, 2, 7, 5, 1) -> 1
        text(0, 0, 2) -> "7,7"
        pattern(0, 2, 3, 7, 5, 1) -> 2
        text(0, 0, 3) -> "7,12,7"
        pattern(0, 2, 300, 0, 1, 1) -> 150
        at(0, 149) -> 149
        at(0, 150) -> 149
        """);
    Script.run("3 few unlike ones: .. (7 * k + k / 3) modulo c",
        """
        pattern(0, 3, 3, 4, 9, 1) -> 1
        text(0, 0, 3) -> "4,4,4"
        pattern(0, 3, 4, 0, 1, 22) -> 2
        text(0, 0, 4) -> "0,7,14,0"
        pattern(0, 3, 4, 0, 1, 23) -> 1
        text(0, 0, 4) -> "0,7,14,22"
        pattern(0, 3, 300, 0, 1, 100) -> 22
        at(0, 299) -> 92
        """);
    Script.run("4 nearly a run: .. as long as k + 1 is below n",
        """
        pattern(0, 4, 0, 0, 1, 1) -> 0
        pattern(0, 4, 1, 5, 1, 1) -> 1
        text(0, 0, 1) -> "5"
        pattern(0, 4, 2, 0, 1, 1) -> 2
        text(0, 0, 2) -> "1,0"
        pattern(0, 4, 2, 0, 1, 2) -> 1
        text(0, 0, 2) -> "0,1"
        pattern(0, 4, 3, 0, 1, 2) -> 2
        text(0, 0, 3) -> "0,2,1"
        pattern(0, 4, 4, 0, 1, 2) -> 2
        text(0, 0, 4) -> "0,2,1,3"
        pattern(0, 4, 5, 0, 1, 2) -> 3
        text(0, 0, 5) -> "0,2,1,4,3"
        pattern(0, 4, 100, 0, 1, 100) -> 1
        pattern(0, 4, 101, 0, 1, 100) -> 2
        text(0, 98, 101) -> "98,100,99"
        """);
    Script.run("4 nearly a run: .. one behind the other",
        """
        pattern(0, 4, 5, 0, 1, 1) -> 2
        text(0, 0, 5) -> "1,2,3,4,0"
        pattern(0, 4, 300, 0, 1, 1) -> 2
        at(0, 299) -> 0
        at(0, 298) -> 299
        """);
    Script.run("5 mixed: x is a modulo 65537 at k 0",
        """
        pattern(0, 5, 1, 65536, 0, 1) -> 1
        at(0, 0) -> 32768
        pattern(0, 5, 1, 65537, 0, 1) -> 1
        at(0, 0) -> -32768
        pattern(0, 5, 1, 100000, 0, 1) -> 1
        at(0, 0) -> 1695
        pattern(0, 5, 1, 32768, 9, 100) -> 1
        at(0, 0) -> 9
        """);
    Script.run("5 mixed: .. for each next k 75 * x + 74, modulo 65537; the int is b + c * (x - 32768)",
        """
        pattern(0, 5, 3, 873, 32, 1) -> 2
        text(0, 0, 3) -> "-31863,-32724,-31762"
        pattern(0, 5, 3, 65536, 0, 1) -> 1
        text(0, 0, 3) -> "32768,32768,32768"
        pattern(0, 5, 2, -1, 1000, 100) -> 1
        text(0, 0, 2) -> "3277800,3277800"
        pattern(0, 5, 2, 0, -1000, 100) -> 1
        text(0, 0, 2) -> "-3277800,-3270400"
        """);
    Script.run("6 to and fro: .. if m is even, otherwise ..",
        """
        pattern(0, 6, 4, 5, 10, 1) -> 1
        text(0, 0, 4) -> "5,6,7,8"
        pattern(0, 6, 6, 0, 10, 2) -> 2
        text(0, 0, 6) -> "0,10,11,1,2,12"
        pattern(0, 6, 201, 0, 10, 100) -> 100
        at(0, 99) -> 990
        at(0, 100) -> 991
        at(0, 199) -> 1
        at(0, 200) -> 2
        """);
  }

  // ---- 4. Shelves

  private static void shelves() {
    Script.run("SHELVES: at most 6, numbered from 0",
        """
        keep(0) -> 0
        keep(1) -> 1
        keep(2) -> 2
        keep(3) -> 3
        keep(4) -> 4
        keepPart(0, 0, 0) -> 5
        keep(0) -> IllegalStateException
        keepPart(0, 0, 0) -> IllegalStateException
        house(0) -> 6
        ofShelf(5, 0) -> 0
        ofShelf(6, 0) -> IndexOutOfBoundsException
        ofShelf(-1, 0) -> IndexOutOfBoundsException
        """);
    Script.run("as one is thrown away, those behind it have numbers one less",
        """
        keep(0) -> 0
        keep(1) -> 1
        keep(2) -> 2
        keep(3) -> 3
        keep(4) -> 4
        keep(0) -> 5
        throwAway(5) -> 5
        ofShelf(4, 0) -> 4
        throwAway(0) -> 4
        ofShelf(0, 0) -> 1
        ofShelf(3, 0) -> 4
        throwAway(1) -> 3
        ofShelf(0, 0) -> 1
        ofShelf(1, 0) -> 3
        ofShelf(2, 0) -> 4
        ofShelf(3, 0) -> IndexOutOfBoundsException
        """);
    Script.run("On each lies a COPY of a ROW: NUMBERS of its KIND at PLACES 0 to its SIZE less 1",
        """
        keep(3) -> 0
        onShelf(0, 0) -> IndexOutOfBoundsException
        pattern(3, 0, 300, 1, 1, 1) -> 2
        keep(3) -> 1
        onShelf(1, 0) -> 1
        onShelf(1, 299) -> 44
        onShelf(1, 300) -> IndexOutOfBoundsException
        onShelf(1, -1) -> IndexOutOfBoundsException
        make(3, 1) -> 300
        onShelf(1, 299) -> 44
        """);
  }
}
