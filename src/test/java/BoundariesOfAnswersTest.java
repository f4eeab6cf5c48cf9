import java.math.BigInteger;

/**
 * The sentences of promises 26 to 44 that name a boundary case, each with a script of its own (see
 * {@link Script}) that would fail if the sentence were broken.
 */
public final class BoundariesOfAnswersTest {

  private static final int LEAST = Integer.MIN_VALUE;
  private static final int MOST = Integer.MAX_VALUE;

  public static void main(String[] args) {
    kindsOfEachMethod();
    shelvesOfEachMethod();
    placesOfEachMethod();
    whatOfEachMethod();
    ofRow();
    at();
    texts("28 text", "text");
    find();
    findPart();
    count();
    ofShelf();
    onShelf();
    unlike();
    house();
    nth();
    texts("37 ordered", "ordered");
    ordered();
    top();
    wouldFind();
    would();
    mode();
    shared();
    isSound();
    digest();
    Script.end();
  }

  // ---- what several methods refuse alike

  private static final int[] NO_KINDS = {-1, 5, 6, LEAST, MOST};

  private static void kindsOfEachMethod() {
    String[] calls = {
      "ofRow(K, 0)", "at(K, 0)", "text(K, 0, 0)", "find(K, 0)", "findPart(K, 0, 0, 0)",
      "count(K, 0)", "nth(K, 0)", "ordered(K, 0, 0)", "top(K, 0)", "wouldFind(K, 0)",
      "would(K, 0)", "mode(K)"
    };
    for (String call : calls) {
      StringBuilder lines = new StringBuilder("make(0, 2) -> 0\nmake(4, 2) -> 0\n");
      for (int kind : NO_KINDS) {
        lines.append(call.replace("K", String.valueOf(kind)));
        lines.append(" -> IndexOutOfBoundsException\n");
      }
      String name = call.substring(0, call.indexOf('('));
      Script.run(name + ": Throws IndexOutOfBoundsException if kind is not 0 to 4", lines.toString());
    }
  }

  private static void shelvesOfEachMethod() {
    for (String call : new String[] {"ofShelf(@, 0)", "onShelf(@, 0)", "unlike(@)", "shared(@, 0)"}) {
      StringBuilder lines = new StringBuilder();
      lines.append(call.replace("@", "0")).append(" -> IndexOutOfBoundsException\n");
      lines.append("make(3, 2) -> 0\nkeep(3) -> 0\nkeep(3) -> 1\n");
      for (int shelf : new int[] {2, 5, 6, -1, LEAST, MOST}) {
        lines.append(call.replace("@", String.valueOf(shelf)));
        lines.append(" -> IndexOutOfBoundsException\n");
      }
      lines.append("throwAway(0) -> 1\n");
      lines.append(call.replace("@", "1")).append(" -> IndexOutOfBoundsException\n");
      String name = call.substring(0, call.indexOf('('));
      Script.run(name + ": Throws IndexOutOfBoundsException if there is no such SHELF",
          lines.toString());
    }
  }

  private static void placesOfEachMethod() {
    for (String name : new String[] {"at", "nth", "onShelf"}) {
      boolean isOfShelf = name.equals("onShelf");
      StringBuilder lines = new StringBuilder();
      lines.append(isOfShelf ? "keep(0) -> 0\n" : "");
      lines.append(name).append("(0, 0) -> IndexOutOfBoundsException\n");
      lines.append("pattern(0, 0, 300, 7, 1, 1) -> 1\n");
      lines.append(isOfShelf ? "throwAway(0) -> 0\nkeep(0) -> 0\n" : "");
      lines.append(name).append("(0, 0) -> 7\n");
      lines.append(name).append("(0, 299) -> 306\n");
      lines.append(name).append("(0, 300) -> IndexOutOfBoundsException\n");
      lines.append("resize(0, 3) -> 300\n");
      lines.append(isOfShelf ? "throwAway(0) -> 0\nkeep(0) -> 0\n" : "");
      lines.append(name).append("(0, 2) -> 9\n");
      for (int place : new int[] {3, 299, 300, -1, LEAST, MOST}) {
        lines.append(name).append("(0, ").append(place).append(") -> IndexOutOfBoundsException\n");
      }
      Script.run(name + ": Throws IndexOutOfBoundsException if .. there is no such PLACE",
          lines.toString());
    }
  }

  private static void whatOfEachMethod() {
    String[] calls = {"ofRow(0, W)", "ofShelf(0, W)", "house(W)", "would(0, W)", "shared(0, W)"};
    int[] last = {4, 2, 4, 3, 2};
    int[] answers = {0, 1, 0, -1, 0};
    for (int i = 0; i < calls.length; i++) {
      StringBuilder lines = new StringBuilder("keep(0) -> 0\n");
      lines.append(calls[i].replace("W", String.valueOf(last[i])));
      lines.append(" -> ").append(answers[i]).append('\n');
      for (int what : new int[] {last[i] + 1, -1, LEAST, MOST}) {
        lines.append(calls[i].replace("W", String.valueOf(what)));
        lines.append(" -> IllegalArgumentException\n");
      }
      String name = calls[i].substring(0, calls[i].indexOf('('));
      Script.run(name + ": Throws IllegalArgumentException if what is not 0 to " + last[i],
          lines.toString());
    }
  }

  /** text and ordered refuse the same; on a ROW in order they answer the same, too. */
  private static void texts(String promise, String name) {
    Script.run(promise + ": the NUMBERS of the PART, with \",\" between two",
        """
        NAME(0, 0, 0) -> ""
        pattern(0, 0, 300, -1, 1, 1) -> 1
        NAME(0, 0, 1) -> "-1"
        NAME(0, 0, 2) -> "-1,0"
        NAME(0, 299, 300) -> "298"
        NAME(0, 300, 300) -> ""
        NAME(0, 298, 300) -> "297,298"
        """
            .replace("NAME", name));
    Script.run(promise + ": Throws IllegalArgumentException if from or to is not 0 to 400",
        """
        make(0, 300) -> 0
        NAME(0, -1, 2) -> IllegalArgumentException
        NAME(0, 2, -1) -> IllegalArgumentException
        NAME(0, -1, -1) -> IllegalArgumentException
        NAME(0, 299, 401) -> IllegalArgumentException
        NAME(0, 401, 401) -> IllegalArgumentException
        NAME(0, 2147483647, -2147483648) -> IllegalArgumentException
        NAME(0, -2147483648, 2147483647) -> IllegalArgumentException
        """
            .replace("NAME", name));
    String forty = "0,".repeat(39) + "0";
    Script.run(promise + ": Throws IllegalArgumentException if .. to less from is above 40",
        """
        make(0, 300) -> 0
        NAME(0, 0, 40) -> "FORTY"
        NAME(0, 260, 300) -> "FORTY"
        NAME(0, 0, 41) -> IllegalArgumentException
        NAME(0, 259, 300) -> IllegalArgumentException
        NAME(0, 0, 300) -> IllegalArgumentException
        """
            .replace("NAME", name)
            .replace("FORTY", forty));
    Script.run(promise + ": Throws IllegalArgumentException if .. the PART is CROSSED or goes BEYOND",
        """
        NAME(0, 0, 1) -> IllegalArgumentException
        NAME(0, 1, 1) -> IllegalArgumentException
        NAME(0, 1, 0) -> IllegalArgumentException
        make(0, 3) -> 0
        NAME(0, 0, 4) -> IllegalArgumentException
        NAME(0, 3, 4) -> IllegalArgumentException
        NAME(0, 4, 4) -> IllegalArgumentException
        NAME(0, 2, 1) -> IllegalArgumentException
        NAME(0, 3, 2) -> IllegalArgumentException
        NAME(0, 5, 4) -> IllegalArgumentException
        NAME(0, 400, 400) -> IllegalArgumentException
        NAME(0, 0, 3) -> "0,0,0"
        """
            .replace("NAME", name));
  }

  // ---- promises 26 to 35

  private static void ofRow() {
    Script.run("26: 0 SIZE",
        """
        ofRow(0, 0) -> 0
        make(0, 300) -> 0
        ofRow(0, 0) -> 300
        """);
    Script.run("26: 1 1 if SORTED, otherwise 0",
        """
        ofRow(4, 1) -> 1
        make(4, 1) -> 0
        ofRow(4, 1) -> 1
        make(4, 300) -> 1
        ofRow(4, 1) -> 1
        set(4, 299, -1) -> 0
        ofRow(4, 1) -> 0
        set(4, 299, 1) -> -1
        ofRow(4, 1) -> 1
        set(4, 0, 2) -> 0
        ofRow(4, 1) -> 0
        """);
    Script.run("26: 2 RISING RUNS",
        """
        ofRow(4, 2) -> 0
        make(4, 1) -> 0
        ofRow(4, 2) -> 1
        pattern(4, 0, 300, 0, -1, 1) -> 300
        ofRow(4, 2) -> 300
        fill(4, 3) -> 300
        ofRow(4, 2) -> 1
        """);
    Script.run("26: 3 how many PLACES from 0 on are SORTED (as many as can be)",
        """
        ofRow(4, 3) -> 0
        make(4, 1) -> 0
        ofRow(4, 3) -> 1
        make(4, 300) -> 1
        ofRow(4, 3) -> 300
        set(4, 299, -1) -> 0
        ofRow(4, 3) -> 299
        set(4, 1, -1) -> 0
        ofRow(4, 3) -> 1
        """);
    Script.run("26: 4 how many pairs of PLACES .. at which the NUMBER of the smaller PLACE is greater",
        """
        ofRow(4, 4) -> 0
        make(4, 1) -> 0
        ofRow(4, 4) -> 0
        make(4, 300) -> 1
        ofRow(4, 4) -> 0
        set(4, 299, -1) -> 0
        ofRow(4, 4) -> 299
        set(4, 0, 1) -> 0
        ofRow(4, 4) -> 597
        pattern(4, 0, 300, 0, -1, 1) -> 300
        ofRow(4, 4) -> 44850
        pattern(0, 0, 2, 0, -1, 1) -> 2
        ofRow(0, 4) -> 1
        set(0, 0, 2147483647) -> 0
        set(0, 1, -2147483648) -> -1
        ofRow(0, 4) -> 1
        """);
  }

  private static void at() {
    Script.run("27: Returns the NUMBER there",
        """
        make(2, 2) -> 0
        set(2, 1, -1) -> 0
        at(2, 0) -> 0
        at(2, 1) -> 65535
        """);
  }

  private static void find() {
    Script.run("29: Returns a SEARCH in the whole ROW",
        """
        find(1, 0) -> -1
        make(1, 300) -> 0
        find(1, 0) -> 0
        find(1, -1) -> -1
        find(1, 1) -> -301
        set(1, 299, 2147483647) -> 0
        find(1, 2147483647) -> 299
        find(1, 2147483646) -> -300
        set(1, 0, -2147483648) -> 0
        find(1, -2147483648) -> 0
        find(1, -2147483647) -> -2
        find(1, 0) -> 1
        make(3, 1) -> 0
        find(3, 256) -> 0
        find(3, 128) -> -1
        find(3, 127) -> -2
        """);
    Script.run("29: Throws IllegalStateException if it is not SORTED",
        """
        pattern(1, 0, 2, 5, -1, 1) -> 2
        find(1, 5) -> IllegalStateException
        make(1, 300) -> 2
        set(1, 299, -1) -> 0
        find(1, 0) -> IllegalStateException
        set(1, 0, -1) -> 0
        find(1, 0) -> IllegalStateException
        set(1, 299, 0) -> -1
        find(1, 0) -> 1
        """);
  }

  private static void findPart() {
    Script.run("30: Returns a SEARCH in the PART",
        """
        findPart(2, 0, 0, 0) -> -1
        pattern(2, 0, 300, 10, 1, 1) -> 1
        findPart(2, 0, 300, 309) -> 299
        findPart(2, 0, 299, 309) -> -300
        findPart(2, 299, 300, 309) -> 299
        findPart(2, 299, 300, 308) -> -300
        findPart(2, 300, 300, 309) -> -301
        findPart(2, 0, 300, 9) -> -1
        findPart(2, 1, 300, 10) -> -2
        findPart(2, 5, 7, 14) -> -6
        findPart(2, 5, 7, 15) -> 5
        findPart(2, 5, 7, 16) -> 6
        findPart(2, 5, 7, 17) -> -8
        findPart(2, 0, 300, 65535) -> -301
        findPart(2, 0, 300, -1) -> -301
        """);
    Script.run("30: -1009, if it is CROSSED",
        """
        make(2, 3) -> 0
        findPart(2, 1, 0, 0) -> -1009
        findPart(2, 3, 2, 0) -> -1009
        findPart(2, 4, 3, 0) -> -1009
        findPart(2, 400, 0, 0) -> -1009
        set(2, 0, 7) -> 0
        findPart(2, 3, 0, 0) -> -1009
        """);
    Script.run("30: -1008, if it goes BEYOND",
        """
        findPart(2, 0, 1, 0) -> -1008
        make(2, 3) -> 0
        findPart(2, 0, 4, 0) -> -1008
        findPart(2, 4, 4, 0) -> -1008
        findPart(2, 400, 400, 0) -> -1008
        set(2, 0, 7) -> 0
        findPart(2, 0, 4, 0) -> -1008
        """);
    Script.run("30: Throws IllegalArgumentException if from or to is not 0 to 400",
        """
        make(2, 3) -> 0
        findPart(2, 401, 401, 0) -> IllegalArgumentException
        findPart(2, 401, 0, 0) -> IllegalArgumentException
        findPart(2, 0, 401, 0) -> IllegalArgumentException
        findPart(2, -1, 2, 0) -> IllegalArgumentException
        findPart(2, 2, -1, 0) -> IllegalArgumentException
        findPart(2, -2147483648, 2147483647, 0) -> IllegalArgumentException
        findPart(2, 2147483647, -2147483648, 0) -> IllegalArgumentException
        """);
    Script.run("30: Throws IllegalArgumentException if .. the PART is CROSSED and goes BEYOND",
        """
        findPart(2, 2, 1, 0) -> IllegalArgumentException
        make(2, 3) -> 0
        findPart(2, 5, 4, 0) -> IllegalArgumentException
        findPart(2, 400, 4, 0) -> IllegalArgumentException
        findPart(2, 400, 399, 0) -> IllegalArgumentException
        """);
    Script.run("30: Throws IllegalStateException if the PART (neither ..) is not SORTED",
        """
        pattern(2, 0, 4, 9, -1, 1) -> 4
        findPart(2, 0, 2, 9) -> IllegalStateException
        findPart(2, 0, 4, 9) -> IllegalStateException
        findPart(2, 2, 4, 9) -> IllegalStateException
        findPart(2, 3, 4, 6) -> 3
        findPart(2, 0, 1, 9) -> 0
        findPart(2, 0, 0, 9) -> -1
        findPart(2, 2, 2, 9) -> -3
        """);
  }

  private static void count() {
    Script.run("31: Returns how often that NUMBER is in the ROW",
        """
        count(3, 0) -> 0
        make(3, 300) -> 0
        count(3, 0) -> 300
        count(3, 256) -> 300
        count(3, -256) -> 300
        count(3, 1) -> 0
        set(3, 299, 128) -> 0
        count(3, -128) -> 1
        count(3, 128) -> 1
        count(3, 0) -> 299
        make(0, 1) -> 0
        count(0, 65536) -> 0
        """);
  }

  private static void ofShelf() {
    Script.run("32: 0 its KIND, 1 its SIZE, 2 1 if it is SORTED, otherwise 0",
        """
        keep(4) -> 0
        ofShelf(0, 0) -> 4
        ofShelf(0, 1) -> 0
        ofShelf(0, 2) -> 1
        pattern(0, 0, 300, 0, -1, 1) -> 300
        keep(0) -> 1
        ofShelf(1, 0) -> 0
        ofShelf(1, 1) -> 300
        ofShelf(1, 2) -> 0
        fill(0, 1) -> 300
        keep(0) -> 2
        ofShelf(2, 2) -> 1
        set(0, 0, 2) -> 1
        keep(0) -> 3
        ofShelf(3, 2) -> 0
        set(0, 0, 1) -> 2
        set(0, 299, 0) -> 1
        keep(0) -> 4
        ofShelf(4, 2) -> 0
        """);
  }

  private static void onShelf() {
    Script.run("33: Returns the NUMBER there",
        """
        make(1, 2) -> 0
        set(1, 1, -2147483648) -> 0
        keep(1) -> 0
        onShelf(0, 0) -> 0
        onShelf(0, 1) -> -2147483648
        """);
    Script.run("33: Throws IndexOutOfBoundsException if there is no such SHELF, or PLACE: a longer ROW",
        """
        make(1, 2) -> 0
        keep(1) -> 0
        make(1, 9) -> 2
        onShelf(0, 1) -> 0
        onShelf(0, 2) -> IndexOutOfBoundsException
        make(1, 1) -> 9
        onShelf(0, 1) -> 0
        """);
  }

  private static void unlike() {
    Script.run("34: the first PLACE at which it and the ROW of its KIND have unlike NUMBERS",
        """
        make(2, 300) -> 0
        keep(2) -> 0
        set(2, 299, 1) -> 0
        unlike(0) -> 299
        set(2, 1, 1) -> 0
        unlike(0) -> 1
        set(2, 0, 1) -> 0
        unlike(0) -> 0
        set(2, 0, 65536) -> 1
        unlike(0) -> 1
        """);
    Script.run("34: or just one of both has one",
        """
        make(2, 2) -> 0
        keep(2) -> 0
        resize(2, 3) -> 2
        unlike(0) -> 2
        resize(2, 1) -> 3
        unlike(0) -> 1
        resize(2, 0) -> 1
        unlike(0) -> 0
        keep(2) -> 1
        resize(2, 300) -> 0
        unlike(1) -> 0
        """);
    Script.run("34: NONE (-1), if both are alike",
        """
        keep(2) -> 0
        unlike(0) -> -1
        make(2, 300) -> 0
        keep(2) -> 1
        unlike(1) -> -1
        set(2, 0, 5) -> 0
        layBack(1) -> 2
        unlike(1) -> -1
        """);
  }

  private static void house() {
    Script.run("35: 0 SHELVES, 1 NUMBERS in all ROWS, 2 NUMBERS on all SHELVES",
        """
        house(0) -> 0
        house(1) -> 0
        house(2) -> 0
        make(0, 300) -> 0
        make(1, 300) -> 0
        make(2, 300) -> 0
        make(3, 300) -> 0
        make(4, 300) -> 0
        house(1) -> 1500
        keep(0) -> 0
        keep(0) -> 1
        keep(0) -> 2
        keep(0) -> 3
        keep(0) -> 4
        keep(4) -> 5
        house(0) -> 6
        house(2) -> 1800
        throwAway(0) -> 5
        house(0) -> 5
        house(2) -> 1500
        """);
    Script.run("35: 3 ROWS that are SORTED (of SIZE 1 or more)",
        """
        house(3) -> 0
        make(0, 1) -> 0
        house(3) -> 1
        make(1, 2) -> 0
        make(2, 300) -> 0
        make(3, 1) -> 0
        make(4, 1) -> 0
        house(3) -> 5
        set(1, 0, 1) -> 0
        house(3) -> 4
        make(4, 0) -> 1
        house(3) -> 3
        """);
    Script.run("35: 4 how often it was knocked",
        """
        house(4) -> 0
        knock() -> 1
        house(4) -> 1
        house(4) -> 1
        """);
  }

  // ---- promises 36 to 44

  private static void nth() {
    Script.run("36: Returns the NUMBER that would be at that PLACE",
        """
        pattern(3, 0, 300, -1, -1, 1) -> 299
        nth(3, 0) -> -128
        nth(3, 299) -> 127
        make(1, 1) -> 0
        set(1, 0, 2147483647) -> 0
        nth(1, 0) -> 2147483647
        """);
  }

  private static void ordered() {
    Script.run("37: Returns the text of that PART of it",
        """
        pattern(2, 0, 300, 0, -1, 1) -> 299
        ordered(2, 0, 2) -> "0,65237"
        ordered(2, 298, 300) -> "65534,65535"
        text(2, 0, 2) -> "0,65535"
        """);
  }

  private static void top() {
    Script.run("38: (so many, or as many as there are), the greatest one first",
        """
        top(1, 0) -> ""
        top(1, 1) -> ""
        top(1, 40) -> ""
        pattern(1, 0, 3, -1, 1, 1) -> 1
        top(1, 0) -> ""
        top(1, 1) -> "3000000019"
        top(1, 2) -> "3000000019,0"
        top(1, 3) -> "3000000019,0,-3000000019"
        top(1, 4) -> "3000000019,0,-3000000019"
        top(1, 40) -> "3000000019,0,-3000000019"
        """);
    StringBuilder forty = new StringBuilder("300");
    for (int number = 299; number > 260; number--) {
      forty.append(',').append(number);
    }
    Script.run("38: Throws IllegalArgumentException if many is not 0 to 40",
        """
        top(0, 41) -> IllegalArgumentException
        pattern(0, 0, 300, 1, 1, 1) -> 1
        top(0, 40) -> "FORTY"
        top(0, 41) -> IllegalArgumentException
        top(0, -1) -> IllegalArgumentException
        top(0, 2147483647) -> IllegalArgumentException
        top(0, -2147483648) -> IllegalArgumentException
        """
            .replace("FORTY", forty));
  }

  private static void wouldFind() {
    Script.run("39: Returns a SEARCH in it",
        """
        wouldFind(4, 0) -> -1
        pattern(4, 0, 300, 300, -1, 1) -> 300
        wouldFind(4, 1) -> 0
        wouldFind(4, 300) -> 299
        wouldFind(4, 0) -> -1
        wouldFind(4, 301) -> -301
        wouldFind(4, 65537) -> 0
        wouldFind(4, 32768) -> -1
        set(4, 5, 1) -> 295
        wouldFind(4, 1) -> 0
        wouldFind(4, 2) -> 2
        wouldFind(4, 295) -> -296
        """);
  }

  private static void would() {
    Script.run("40: 0 at how many PLACES there would be another NUMBER",
        """
        would(0, 0) -> 0
        make(0, 300) -> 0
        would(0, 0) -> 0
        pattern(0, 0, 300, 0, -1, 1) -> 300
        would(0, 0) -> 300
        pattern(0, 0, 299, 0, -1, 1) -> 299
        would(0, 0) -> 298
        sort(0) -> 298
        would(0, 0) -> 0
        """);
    Script.run("40: 1 how many unlike NUMBERS there are",
        """
        would(0, 1) -> 0
        make(0, 300) -> 0
        would(0, 1) -> 1
        pattern(0, 0, 300, 0, -1, 1) -> 300
        would(0, 1) -> 300
        pattern(3, 0, 300, 0, 1, 1) -> 2
        would(3, 1) -> 256
        """);
    Script.run("40: 2 how often the one that is there most often is (0 with SIZE 0)",
        """
        would(0, 2) -> 0
        make(0, 1) -> 0
        would(0, 2) -> 1
        make(0, 300) -> 1
        would(0, 2) -> 300
        pattern(0, 0, 300, 0, -1, 1) -> 300
        would(0, 2) -> 1
        pattern(3, 0, 300, 0, 1, 1) -> 2
        would(3, 2) -> 2
        """);
    Script.run("40: 3 the smallest difference .. (-1 with SIZE below 2)",
        """
        would(0, 3) -> -1
        make(0, 1) -> 0
        would(0, 3) -> -1
        make(0, 2) -> 1
        would(0, 3) -> 0
        set(0, 0, 3) -> 0
        would(0, 3) -> 3
        """);
    Script.run("40: 3 the smallest difference .. of the ints by which they are told",
        """
        pattern(1, 0, 2, 5, -4, 1) -> 2
        would(1, 3) -> 4
        make(2, 2) -> 0
        set(2, 0, -1) -> 0
        would(2, 3) -> 65535
        make(3, 2) -> 0
        set(3, 0, 127) -> 0
        set(3, 1, 128) -> 0
        would(3, 3) -> 255
        """);
    Script.run("40: 3 the smallest difference .. 2147483647 at most",
        """
        make(0, 2) -> 0
        set(0, 0, 2147483647) -> 0
        would(0, 3) -> 2147483647
        set(0, 1, -1) -> 0
        would(0, 3) -> 2147483647
        set(0, 1, -2147483648) -> -1
        would(0, 3) -> 2147483647
        set(0, 1, 1) -> -2147483648
        would(0, 3) -> 2147483646
        make(1, 3) -> 0
        set(1, 0, 2147483647) -> 0
        set(1, 1, -2147483648) -> 0
        would(1, 3) -> 2147483647
        set(1, 2, 2147483646) -> 0
        would(1, 3) -> 1
        """);
  }

  private static void mode() {
    Script.run("41: the NUMBER that is there most often (of several the smallest one)",
        """
        make(2, 1) -> 0
        set(2, 0, -1) -> 0
        mode(2) -> 65535
        pattern(2, 1, 6, 3, -1, 3) -> 5
        mode(2) -> 1
        set(2, 2, 3) -> 1
        mode(2) -> 3
        make(2, 300) -> 6
        mode(2) -> 0
        pattern(0, 0, 300, 300, -1, 1) -> 300
        mode(0) -> 1
        set(0, 0, 150) -> 300
        mode(0) -> 150
        make(0, 2) -> 300
        set(0, 1, -2147483648) -> 0
        mode(0) -> -2147483648
        """);
    Script.run("41: Throws IllegalStateException if SIZE is 0",
        """
        mode(0) -> IllegalStateException
        make(0, 1) -> 0
        mode(0) -> 0
        resize(0, 0) -> 1
        mode(0) -> IllegalStateException
        mode(4) -> IllegalStateException
        """);
  }

  private static void shared() {
    Script.run("42: 0 1 if it and the ROW of its KIND have the same NUMBERS, each as often",
        """
        keep(0) -> 0
        shared(0, 0) -> 1
        pattern(0, 1, 4, 1, 1, 2) -> 2
        shared(0, 0) -> 0
        keep(0) -> 1
        shared(1, 0) -> 1
        sort(0) -> 2
        shared(1, 0) -> 1
        set(0, 1, 2) -> 1
        shared(1, 0) -> 0
        set(0, 1, 1) -> 2
        resize(0, 5) -> 4
        shared(1, 0) -> 0
        resize(0, 3) -> 5
        shared(1, 0) -> 0
        make(0, 0) -> 3
        shared(1, 0) -> 0
        shared(0, 0) -> 1
        """);
    Script.run("42: 1 .. (one that is p times in one and q times in the other one counts as often ..)",
        """
        keep(0) -> 0
        shared(0, 1) -> 0
        make(0, 300) -> 0
        shared(0, 1) -> 0
        keep(0) -> 1
        shared(1, 1) -> 300
        resize(0, 2) -> 300
        shared(1, 1) -> 2
        keep(0) -> 2
        resize(0, 5) -> 2
        shared(2, 1) -> 2
        fill(0, 1) -> 5
        shared(1, 1) -> 0
        set(0, 4, 0) -> 1
        shared(1, 1) -> 1
        make(0, 0) -> 5
        shared(1, 1) -> 0
        """);
    Script.run("42: 1 how many NUMBERS both have in common: some just of the ROW, some just of the SHELF",
        """
        pattern(0, 0, 4, 4, -1, 1) -> 4
        keep(0) -> 0
        pattern(0, 0, 4, 3, 1, 1) -> 1
        shared(0, 1) -> 2
        pattern(0, 0, 4, 2, -1, 1) -> 4
        shared(0, 1) -> 2
        pattern(0, 0, 4, 0, 4, 1) -> 1
        shared(0, 1) -> 1
        pattern(0, 0, 4, 5, 1, 1) -> 1
        shared(0, 1) -> 0
        """);
    Script.run("42: 2 how many unlike NUMBERS of the ROW are not on it",
        """
        keep(0) -> 0
        shared(0, 2) -> 0
        make(0, 300) -> 0
        shared(0, 2) -> 1
        keep(0) -> 1
        shared(1, 2) -> 0
        pattern(0, 0, 300, 1, 1, 1) -> 1
        shared(1, 2) -> 300
        shared(0, 2) -> 300
        set(0, 299, 0) -> 300
        set(0, 298, 1) -> 299
        shared(1, 2) -> 298
        make(0, 0) -> 300
        shared(1, 2) -> 0
        pattern(0, 0, 4, 4, -1, 1) -> 4
        keep(0) -> 2
        shared(2, 2) -> 0
        pattern(0, 0, 4, 0, 1, 1) -> 1
        shared(2, 2) -> 1
        pattern(0, 0, 4, 2, 1, 1) -> 1
        shared(2, 2) -> 1
        """);
  }

  private static void isSound() {
    Script.run("43: SIZES are 0 to 300, SHELVES 6 at most",
        """
        isSound() -> true
        pattern(0, 5, 300, 1, 1, 100) -> 148
        make(1, 300) -> 0
        pattern(2, 0, 300, 9, -1, 1) -> 299
        pattern(3, 0, 300, 9, -1, 1) -> 299
        pattern(4, 2, 1, 9, -1, 1) -> 1
        isSound() -> true
        keep(0) -> 0
        keep(1) -> 1
        keep(2) -> 2
        keep(3) -> 3
        keep(4) -> 4
        keep(0) -> 5
        keep(0) -> IllegalStateException
        isSound() -> true
        make(0, 0) -> 300
        isSound() -> true
        """);
    Script.run("43: a COPY of it .. leaves it as it was",
        """
        make(0, 2) -> 0
        set(0, 0, 2147483647) -> 0
        set(0, 1, -2147483648) -> 0
        keep(0) -> 0
        isSound() -> true
        text(0, 0, 2) -> "2147483647,-2147483648"
        onShelf(0, 0) -> 2147483647
        """);
  }

  // ---- the checksum, put together from numbers that are told by hand

  private static final int[] EMPTY_ROW = {0, 1, 0, 0, 0, 0, 0, -1, -1, -1, -1};

  /** By numbers without bounds, cut to 64 bits at the end only; the last one is that of isSound. */
  private static long checksum(int[]... all) {
    BigInteger d = BigInteger.valueOf(5113);
    for (int[] numbers : all) {
      for (int number : numbers) {
        d = d.multiply(BigInteger.valueOf(31)).add(BigInteger.valueOf(number));
      }
    }
    return d.multiply(BigInteger.valueOf(31)).add(BigInteger.ONE).longValue();
  }

  private static void digest() {
    emptyDigest();
    digestOfOne();
    digestOfFive();
    digestOfExtremes();
  }

  private static void emptyDigest() {
    int[] house = {0, 0, 0, 0, 0};
    Script.demand("44: nth() .. (none with SIZE 0)", "digest()", new Rowsorter().digest(),
        checksum(house, EMPTY_ROW, EMPTY_ROW, EMPTY_ROW, EMPTY_ROW, EMPTY_ROW));
  }

  /** One NUMBER in ROW 4, and two on a SHELF: the PLACES 0, SIZE / 2 and SIZE less 1 are all 0. */
  private static void digestOfOne() {
    Rowsorter x = Script.after(
        """
        make(4, 2) -> 0
        set(4, 0, -7) -> 0
        keep(4) -> 0
        resize(4, 1) -> 2
        knock() -> 1
        """);
    int[] house = {1, 1, 2, 1, 1};
    int[] row = {1, 1, 1, 1, -7, 0, 1, 1, -1, -7, -7, -7, 0, -2, -2};
    int[] shelf = {4, 2, 1, 1, 0, 1, 0};
    Script.demand("44: SHELF by SHELF ofShelf() .., unlike(), shared()", "digest()", x.digest(),
        checksum(house, EMPTY_ROW, EMPTY_ROW, EMPTY_ROW, EMPTY_ROW, row, shelf));
  }

  /** The PLACES 0, 2 and 4 of five, and the NUMBERS that are asked for by wouldFind. */
  private static void digestOfFive() {
    Rowsorter x = Script.after(
        """
        pattern(1, 0, 5, 101, -1, 1) -> 5
        set(1, 0, 0) -> 101
        set(1, 1, -7) -> 100
        """);
    int[] house = {0, 5, 0, 0, 0};
    int[] row = {5, 0, 4, 1, 0, -7, 99, 98, 97, 4, 5, 1, 1, -7, 97, 99, 0, 1, -6};
    Script.demand("44: nth() of the PLACES 0, SIZE / 2 and SIZE less 1", "digest()", x.digest(),
        checksum(house, EMPTY_ROW, row, EMPTY_ROW, EMPTY_ROW, EMPTY_ROW));
    x.set(1, 4, 100);
    int[] with100 = {5, 0, 3, 1, 0, -7, 99, 98, 100, 4, 5, 1, 1, -7, 98, 100, 0, 1, 4};
    Script.demand("44: wouldFind() by -7, 0 and 100", "digest()", x.digest(),
        checksum(house, EMPTY_ROW, with100, EMPTY_ROW, EMPTY_ROW, EMPTY_ROW));
  }

  private static void digestOfExtremes() {
    Rowsorter x = Script.after(
        """
        make(0, 3) -> 0
        set(0, 0, 2147483647) -> 0
        set(0, 1, -2147483648) -> 0
        """);
    int[] house = {0, 3, 0, 0, 0};
    int[] row = {
      3, 0, 2, 1, MOST, LEAST, 0, 3, 3, 1, MOST, LEAST, 0, MOST, -2, 1, -3
    };
    Script.demand("44: wraps around as a 64-bit integer", "digest()", x.digest(),
        checksum(house, row, EMPTY_ROW, EMPTY_ROW, EMPTY_ROW, EMPTY_ROW));
  }
}
