/**
 * The sentences of promises 19 to 25 that name a boundary case, each with a script of its own (see
 * {@link Script}) that would fail if the sentence were broken.
 */
public final class BoundariesOfShelvesTest {

  private static final String SIX_SHELVES =
      """
      pattern(0, 0, 3, 5, 1, 1) -> 1
      keep(0) -> 0
      keep(1) -> 1
      keep(2) -> 2
      keep(3) -> 3
      keep(4) -> 4
      keep(0) -> 5
      """;

  public static void main(String[] args) {
    kindsOfEachMethod();
    shelvesOfEachMethod();
    keep();
    keepPart();
    layBack();
    sortShelf();
    merge();
    throwAway();
    knock();
    Script.end();
  }

  private static void kindsOfEachMethod() {
    for (String name : new String[] {"keep", "keepPart"}) {
      String rest = name.equals("keep") ? ") " : ", 0, 0) ";
      StringBuilder lines = new StringBuilder();
      lines.append(name).append("(0").append(rest).append("-> 0\n");
      lines.append(name).append("(4").append(rest).append("-> 1\n");
      for (int kind : new int[] {-1, 5, Integer.MIN_VALUE, Integer.MAX_VALUE}) {
        lines.append(name).append('(').append(kind).append(rest);
        lines.append("-> IndexOutOfBoundsException\n");
      }
      Script.run(name + ": Throws IndexOutOfBoundsException if kind is not 0 to 4", lines.toString());
    }
  }

  private static void shelvesOfEachMethod() {
    for (String name : new String[] {"layBack", "sortShelf", "merge", "throwAway"}) {
      StringBuilder lines = new StringBuilder(name).append("(0) -> IndexOutOfBoundsException\n");
      lines.append("make(3, 2) -> 0\nkeep(3) -> 0\nkeep(3) -> 1\n");
      for (int shelf : new int[] {2, 5, 6, -1, Integer.MIN_VALUE, Integer.MAX_VALUE}) {
        lines.append(name).append('(').append(shelf).append(") -> IndexOutOfBoundsException\n");
      }
      lines.append("throwAway(1) -> 1\n").append(name).append("(1) -> IndexOutOfBoundsException\n");
      Script.run(name + ": Throws IndexOutOfBoundsException if there is no such SHELF",
          lines.toString());
    }
  }

  private static void keep() {
    Script.run("19: Lays a COPY of a ROW on a new SHELF",
        """
        keep(2) -> 0
        ofShelf(0, 0) -> 2
        ofShelf(0, 1) -> 0
        pattern(2, 0, 300, 5, 1, 1) -> 1
        keep(2) -> 1
        fill(2, 9) -> 299
        ofShelf(1, 1) -> 300
        onShelf(1, 0) -> 5
        onShelf(1, 299) -> 304
        sort(2) -> 0
        keep(2) -> 2
        onShelf(2, 0) -> 9
        sortShelf(2) -> 0
        onShelf(1, 0) -> 5
        """);
    Script.run("19: Returns the number of the SHELF",
        SIX_SHELVES
            + """
            throwAway(0) -> 5
            keep(3) -> 5
            throwAway(5) -> 5
            throwAway(4) -> 4
            keep(2) -> 4
            ofShelf(4, 0) -> 2
            keep(1) -> 5
            ofShelf(5, 0) -> 1
            """);
    Script.run("19: Throws IllegalStateException if there are 6",
        SIX_SHELVES
            + """
            keep(0) -> IllegalStateException
            keep(4) -> IllegalStateException
            throwAway(2) -> 5
            keep(4) -> 5
            keep(4) -> IllegalStateException
            """);
  }

  private static void keepPart() {
    Script.run("20: Lays a COPY of a PART on a new SHELF",
        """
        pattern(4, 0, 300, 1, 1, 1) -> 1
        keepPart(4, 0, 300) -> 0
        ofShelf(0, 1) -> 300
        onShelf(0, 0) -> 1
        onShelf(0, 299) -> 300
        keepPart(4, 299, 300) -> 1
        ofShelf(1, 1) -> 1
        onShelf(1, 0) -> 300
        keepPart(4, 300, 300) -> 2
        ofShelf(2, 1) -> 0
        keepPart(4, 1, 3) -> 3
        fill(4, 9) -> 299
        onShelf(3, 0) -> 2
        onShelf(3, 1) -> 3
        onShelf(3, 2) -> IndexOutOfBoundsException
        ofShelf(3, 0) -> 4
        """);
    Script.run("20: if to is above SIZE, NUMBERS 0 come behind, up to it",
        """
        keepPart(4, 0, 2) -> 0
        ofShelf(0, 1) -> 2
        onShelf(0, 0) -> 0
        onShelf(0, 1) -> 0
        pattern(4, 0, 3, 1, 1, 1) -> 1
        keepPart(4, 2, 4) -> 1
        ofShelf(1, 1) -> 2
        onShelf(1, 0) -> 3
        onShelf(1, 1) -> 0
        keepPart(4, 3, 4) -> 2
        ofShelf(2, 1) -> 1
        onShelf(2, 0) -> 0
        keepPart(4, 1, 301) -> 3
        ofShelf(3, 1) -> 300
        onShelf(3, 1) -> 3
        onShelf(3, 2) -> 0
        onShelf(3, 299) -> 0
        ofRow(4, 0) -> 3
        """);
    Script.run("20: .. also where a SHELF was thrown away that had other NUMBERS",
        """
        pattern(4, 0, 300, 1, 1, 1) -> 1
        keep(4) -> 0
        throwAway(0) -> 0
        make(4, 1) -> 300
        keepPart(4, 0, 300) -> 0
        merge(0) -> IllegalStateException
        make(4, 0) -> 1
        merge(0) -> 300
        count(4, 0) -> 300
        """);
    Script.run("20: Returns .. -9, if the PART is CROSSED",
        """
        keepPart(1, 1, 0) -> IllegalArgumentException
        make(1, 3) -> 0
        keepPart(1, 1, 0) -> -9
        keepPart(1, 3, 2) -> -9
        keepPart(1, 3, 0) -> -9
        house(0) -> 0
        """);
    Script.run("20: Returns .. -8, if from is above SIZE",
        """
        keepPart(1, 1, 1) -> -8
        make(1, 3) -> 0
        keepPart(1, 4, 4) -> -8
        keepPart(1, 4, 304) -> -8
        keepPart(1, 100, 400) -> -8
        keepPart(1, 400, 400) -> -8
        keepPart(1, 3, 3) -> 0
        house(0) -> 1
        """);
    Script.run("20: Throws IllegalArgumentException if from or to is not 0 to 400",
        """
        make(1, 300) -> 0
        keepPart(1, 401, 401) -> IllegalArgumentException
        keepPart(1, 401, 300) -> IllegalArgumentException
        keepPart(1, 300, 401) -> IllegalArgumentException
        keepPart(1, -1, 2) -> IllegalArgumentException
        keepPart(1, 0, -1) -> IllegalArgumentException
        keepPart(1, -2147483648, 2147483647) -> IllegalArgumentException
        keepPart(1, 2147483647, -2147483648) -> IllegalArgumentException
        keepPart(1, 300, 400) -> 0
        ofShelf(0, 1) -> 100
        """);
    Script.run("20: Throws IllegalArgumentException if .. to less from is above 300",
        """
        make(1, 3) -> 0
        keepPart(1, 0, 301) -> IllegalArgumentException
        keepPart(1, 3, 304) -> IllegalArgumentException
        keepPart(1, 4, 305) -> IllegalArgumentException
        keepPart(1, 0, 400) -> IllegalArgumentException
        keepPart(1, 0, 300) -> 0
        keepPart(1, 3, 303) -> 1
        """);
    Script.run("20: Throws IllegalArgumentException if .. the PART is CROSSED and from is above SIZE",
        """
        keepPart(1, 1, 0) -> IllegalArgumentException
        make(1, 3) -> 0
        keepPart(1, 4, 3) -> IllegalArgumentException
        keepPart(1, 400, 0) -> IllegalArgumentException
        keepPart(1, 400, 399) -> IllegalArgumentException
        """);
    Script.run("20: Throws IllegalStateException if there are 6",
        SIX_SHELVES
            + """
            keepPart(0, 0, 1) -> IllegalStateException
            keepPart(0, 0, 0) -> IllegalStateException
            keepPart(0, 2, 1) -> IllegalStateException
            keepPart(0, 4, 5) -> IllegalStateException
            throwAway(0) -> 5
            keepPart(0, 0, 1) -> 5
            keepPart(0, 0, 1) -> IllegalStateException
            """);
  }

  private static void layBack() {
    Script.run("21: The ROW of its KIND becomes a COPY .. (it stays there, too). .. Returns the KIND",
        """
        keep(0) -> 0
        pattern(0, 0, 300, 5, 1, 1) -> 1
        keep(0) -> 1
        make(4, 2) -> 0
        keep(4) -> 2
        layBack(0) -> 0
        ofRow(0, 0) -> 0
        layBack(1) -> 0
        ofRow(0, 0) -> 300
        at(0, 299) -> 304
        set(0, 299, 7) -> 304
        onShelf(1, 299) -> 304
        layBack(1) -> 0
        at(0, 299) -> 304
        fill(4, 3) -> 2
        layBack(2) -> 4
        text(4, 0, 2) -> "0,0"
        house(0) -> 3
        """);
  }

  private static void sortShelf() {
    Script.run("22: Returns at how many PLACES there is another NUMBER then",
        """
        keep(2) -> 0
        sortShelf(0) -> 0
        make(2, 1) -> 0
        keep(2) -> 1
        sortShelf(1) -> 0
        pattern(2, 0, 300, 300, -1, 1) -> 300
        keep(2) -> 2
        sortShelf(2) -> 300
        onShelf(2, 0) -> 1
        onShelf(2, 299) -> 300
        at(2, 0) -> 300
        sortShelf(2) -> 0
        pattern(2, 0, 3, 3, -1, 1) -> 3
        keep(2) -> 3
        sortShelf(3) -> 2
        """);
  }

  private static void merge() {
    Script.run("23: The NUMBERS of a SHELF come behind ..: an empty SHELF, an empty ROW",
        """
        keep(3) -> 0
        merge(0) -> 0
        pattern(3, 0, 3, 3, -1, 1) -> 3
        keep(3) -> 1
        merge(0) -> 3
        text(3, 0, 3) -> "1,2,3"
        make(3, 0) -> 3
        merge(1) -> 3
        text(3, 0, 3) -> "1,2,3"
        onShelf(1, 0) -> 3
        ofShelf(1, 2) -> 0
        ofShelf(1, 1) -> 3
        """);
    Script.run("23: Throws IllegalStateException if SIZE would be above 300",
        """
        make(1, 300) -> 0
        keep(1) -> 0
        merge(0) -> IllegalStateException
        make(1, 1) -> 300
        merge(0) -> IllegalStateException
        make(1, 0) -> 1
        merge(0) -> 300
        keepPart(1, 0, 1) -> 1
        merge(1) -> IllegalStateException
        resize(1, 299) -> 300
        merge(1) -> 300
        keepPart(1, 0, 0) -> 2
        merge(2) -> 300
        """);
  }

  private static void throwAway() {
    Script.run("24: Throws away what lies on a SHELF. .. Returns how many SHELVES there are then",
        SIX_SHELVES
            + """
            throwAway(5) -> 5
            throwAway(0) -> 4
            ofShelf(0, 0) -> 1
            ofShelf(3, 0) -> 4
            throwAway(2) -> 3
            ofShelf(2, 0) -> 4
            throwAway(2) -> 2
            throwAway(1) -> 1
            ofShelf(0, 0) -> 1
            throwAway(0) -> 0
            house(0) -> 0
            house(2) -> 0
            throwAway(0) -> IndexOutOfBoundsException
            """);
    Script.run("24: .. and a SHELF that comes then changes none of those that stay",
        SIX_SHELVES
            + """
            make(1, 2) -> 0
            throwAway(0) -> 5
            keep(1) -> 5
            ofShelf(5, 0) -> 1
            ofShelf(5, 1) -> 2
            ofShelf(4, 0) -> 0
            ofShelf(4, 1) -> 3
            onShelf(4, 2) -> 7
            throwAway(3) -> 5
            throwAway(3) -> 4
            keep(0) -> 4
            fill(1, 9) -> 2
            keep(1) -> 5
            ofShelf(3, 0) -> 1
            onShelf(3, 1) -> 0
            onShelf(4, 2) -> 7
            onShelf(5, 1) -> 9
            """);
  }

  private static void knock() {
    Script.run("25: Returns how often ever, with this",
        """
        house(4) -> 0
        knock() -> 1
        keep(0) -> 0
        throwAway(0) -> 0
        make(0, 301) -> IllegalArgumentException
        knock() -> 2
        house(4) -> 2
        """);
  }
}
