/** Promise by promise, scripts of calls (see {@link Script}) with ordinary inputs, edges and wrong ones. */
public final class PromisesTest {

  public static void main(String[] args) {
    rowsThatAreMade();
    rowsInOrder();
    shelves();
    whatIsAsked();
    whatWouldBe();
    digests();
    exampleOfReadme();
    Script.end();
  }

  private static void exampleOfReadme() {
    Script.run("the example of README.md",
        """
        pattern(1, 2, 5, 1, 10, 1) -> 3
        text(1, 0, 2) -> "3000000019,33000000209"
        keep(1) -> 0
        sort(1) -> 3
        find(1, 11) -> 2
        layBack(0) -> 1
        text(1, 0, 5) -> "3000000019,33000000209,63000000399,33000000209,3000000019"
        """);
  }

  // ---- promises 1 to 12

  private static void rowsThatAreMade() {
    Script.run("1 a new object",
        """
        house(0) -> 0
        house(1) -> 0
        house(2) -> 0
        house(3) -> 0
        house(4) -> 0
        ofRow(0, 0) -> 0
        ofRow(1, 0) -> 0
        ofRow(2, 0) -> 0
        ofRow(3, 0) -> 0
        ofRow(4, 0) -> 0
        text(4, 0, 0) -> ""
        ofShelf(0, 0) -> IndexOutOfBoundsException
        isSound() -> true
        """);
    Script.run("2 make",
        """
        make(0, 3) -> 0
        text(0, 0, 3) -> "0,0,0"
        set(0, 1, 7) -> 0
        make(0, 2) -> 3
        text(0, 0, 2) -> "0,0"
        make(0, 300) -> 2
        at(0, 299) -> 0
        make(0, 0) -> 300
        ofRow(0, 0) -> 0
        make(4, 1) -> 0
        make(0, 301) -> IllegalArgumentException
        make(0, -1) -> IllegalArgumentException
        make(-1, 5) -> IndexOutOfBoundsException
        make(5, 5) -> IndexOutOfBoundsException
        make(5, 301) -> IndexOutOfBoundsException
        make(4, 2) -> 1
        house(1) -> 2
        """);
    patterns();
    Script.run("4 set",
        """
        make(0, 2) -> 0
        set(0, 0, -2147483648) -> 0
        set(0, 0, 2147483647) -> -2147483648
        at(0, 0) -> 2147483647
        at(0, 1) -> 0
        set(0, 2, 1) -> IndexOutOfBoundsException
        set(0, -1, 1) -> IndexOutOfBoundsException
        set(1, 0, 1) -> IndexOutOfBoundsException
        set(-1, 0, 1) -> IndexOutOfBoundsException
        set(5, 0, 1) -> IndexOutOfBoundsException
        """);
    Script.run("4 set: the kinds",
        """
        make(1, 2) -> 0
        set(1, 0, 2147483647) -> 0
        set(1, 1, -2147483648) -> 0
        text(1, 0, 2) -> "6442450981802189293,-6442450984802189312"
        set(1, 1, 5) -> -2147483648
        text(1, 1, 2) -> "15000000095"
        make(2, 4) -> 0
        set(2, 0, 65535) -> 0
        set(2, 1, 65536) -> 0
        set(2, 2, -1) -> 0
        set(2, 3, -65537) -> 0
        text(2, 0, 4) -> "65535,0,65535,65535"
        make(3, 6) -> 0
        set(3, 0, 127) -> 0
        set(3, 1, 128) -> 0
        set(3, 2, -128) -> 0
        set(3, 3, -129) -> 0
        set(3, 4, 1000) -> 0
        set(3, 5, -1000) -> 0
        text(3, 0, 6) -> "127,-128,-128,127,-24,24"
        set(3, 0, 5) -> 127
        make(4, 4) -> 0
        set(4, 0, 32767) -> 0
        set(4, 1, 32768) -> 0
        set(4, 2, -32768) -> 0
        set(4, 3, -32769) -> 0
        text(4, 0, 4) -> "32767,-32768,-32768,32767"
        """);
    Script.run("5 swap",
        """
        pattern(1, 0, 4, 1, 1, 1) -> 1
        swap(1, 0, 3) -> 3
        text(1, 0, 4) -> "12000000076,6000000038,9000000057,3000000019"
        swap(1, 3, 0) -> 1
        swap(1, 2, 2) -> 1
        at(1, 2) -> 3
        swap(1, 2, 1) -> 2
        swap(1, 0, 4) -> IndexOutOfBoundsException
        swap(1, 4, 0) -> IndexOutOfBoundsException
        swap(1, -1, 0) -> IndexOutOfBoundsException
        swap(1, 0, -1) -> IndexOutOfBoundsException
        swap(5, 0, 1) -> IndexOutOfBoundsException
        swap(-1, 0, 1) -> IndexOutOfBoundsException
        swap(0, 0, 0) -> IndexOutOfBoundsException
        """);
    Script.run("6 fill",
        """
        fill(3, 9) -> 0
        pattern(3, 0, 4, 5, 1, 1) -> 1
        fill(3, 262) -> 3
        text(3, 0, 4) -> "6,6,6,6"
        fill(3, 6) -> 0
        fill(3, -250) -> 0
        fill(3, -1) -> 4
        fill(-1, 6) -> IndexOutOfBoundsException
        fill(5, 6) -> IndexOutOfBoundsException
        """);
    Script.run("7 fillPart",
        """
        pattern(2, 0, 6, 0, 1, 1) -> 1
        fillPart(2, 1, 4, 65538) -> 2
        text(2, 0, 6) -> "0,2,2,2,4,5"
        fillPart(2, 6, 6, 9) -> 0
        fillPart(2, 0, 0, 9) -> 0
        fillPart(2, 5, 6, 9) -> 1
        text(2, 0, 6) -> "0,2,2,2,4,9"
        fillPart(2, 4, 3, 7) -> -9
        fillPart(2, 400, 6, 7) -> -9
        fillPart(2, 0, 7, 7) -> -8
        fillPart(2, 400, 400, 7) -> -8
        fillPart(2, 8, 7, 7) -> IllegalArgumentException
        fillPart(2, -1, 3, 7) -> IllegalArgumentException
        fillPart(2, 3, -1, 7) -> IllegalArgumentException
        fillPart(2, 0, 401, 7) -> IllegalArgumentException
        fillPart(2, 401, 0, 7) -> IllegalArgumentException
        fillPart(5, 401, 0, 7) -> IndexOutOfBoundsException
        fillPart(-1, 0, 0, 7) -> IndexOutOfBoundsException
        """);
    Script.run("8 resize",
        """
        pattern(0, 0, 4, 5, 1, 1) -> 1
        resize(0, 2) -> 4
        resize(0, 5) -> 2
        text(0, 0, 5) -> "5,6,0,0,0"
        resize(0, -1) -> -9
        resize(0, 5) -> 5
        resize(0, 300) -> 5
        at(0, 299) -> 0
        resize(0, 301) -> IllegalArgumentException
        resize(0, -2) -> IllegalArgumentException
        resize(0, 0) -> 300
        ofRow(0, 0) -> 0
        resize(-1, 301) -> IndexOutOfBoundsException
        resize(5, -1) -> IndexOutOfBoundsException
        """);
    Script.run("9 cut",
        """
        pattern(4, 0, 6, 10, 1, 1) -> 1
        cut(4, 2, 5) -> 3
        text(4, 0, 3) -> "12,13,14"
        cut(4, 1, 5) -> 4
        text(4, 0, 4) -> "13,14,0,0"
        cut(4, 3, 2) -> -9
        cut(4, 400, 401) -> IllegalArgumentException
        cut(4, 5, 6) -> -8
        cut(4, 6, 6) -> -8
        cut(4, 400, 400) -> -8
        cut(4, 6, 5) -> IllegalArgumentException
        cut(4, -1, 5) -> IllegalArgumentException
        cut(4, 1, -5) -> IllegalArgumentException
        cut(4, 401, 5) -> IllegalArgumentException
        cut(4, 0, 301) -> IllegalArgumentException
        cut(4, 5, 400) -> IllegalArgumentException
        cut(5, 0, 301) -> IndexOutOfBoundsException
        cut(-1, 0, 0) -> IndexOutOfBoundsException
        cut(4, 4, 6) -> 2
        text(4, 0, 2) -> "0,0"
        cut(4, 1, 301) -> 300
        cut(4, 300, 400) -> 100
        cut(4, 100, 100) -> 0
        cut(4, 0, 0) -> 0
        cut(4, 0, 2) -> 2
        """);
    Script.run("10 turn",
        """
        pattern(0, 0, 6, 1, 1, 1) -> 1
        turn(0, 1, 5) -> 4
        text(0, 0, 6) -> "1,5,4,3,2,6"
        turn(0, 1, 4) -> 2
        text(0, 0, 6) -> "1,3,4,5,2,6"
        turn(0, 0, 6) -> 5
        text(0, 0, 6) -> "6,2,5,4,3,1"
        turn(0, 6, 6) -> 5
        turn(0, 3, 3) -> 5
        turn(0, 3, 2) -> IllegalArgumentException
        turn(0, 0, 7) -> IllegalArgumentException
        turn(0, 7, 7) -> IllegalArgumentException
        turn(0, -1, 3) -> IllegalArgumentException
        turn(0, 0, -1) -> IllegalArgumentException
        turn(0, 0, 401) -> IllegalArgumentException
        turn(5, 0, 401) -> IndexOutOfBoundsException
        turn(-1, 0, 0) -> IndexOutOfBoundsException
        turn(1, 0, 0) -> 0
        """);
    Script.run("10 turn: runs",
        """
        pattern(0, 0, 6, 6, -1, 1) -> 6
        turn(0, 0, 6) -> 1
        turn(0, 0, 3) -> 3
        """);
    Script.run("11 roll",
        """
        pattern(1, 0, 5, 1, 1, 1) -> 1
        roll(1, 2) -> 2
        text(1, 0, 5) -> "12000000076,15000000095,3000000019,6000000038,9000000057"
        roll(1, 0) -> 2
        roll(1, 5) -> 2
        roll(1, 13) -> 1
        text(1, 0, 2) -> "3000000019,6000000038"
        roll(1, 300) -> 1
        roll(1, 299) -> 2
        at(1, 4) -> 1
        roll(1, 301) -> IllegalArgumentException
        roll(1, -1) -> IllegalArgumentException
        roll(0, 7) -> 0
        roll(5, 301) -> IndexOutOfBoundsException
        roll(-1, 0) -> IndexOutOfBoundsException
        """);
    Script.run("12 pour",
        """
        pattern(0, 0, 4, -300, 200, 1) -> 1
        make(3, 7) -> 0
        pour(0, 3) -> 4
        text(3, 0, 4) -> "-44,-100,100,44"
        text(0, 0, 4) -> "-300,-100,100,300"
        ofRow(3, 0) -> 4
        pour(0, 2) -> 4
        text(2, 0, 4) -> "65236,65436,100,300"
        pour(2, 4) -> 4
        text(4, 0, 4) -> "-300,-100,100,300"
        pour(3, 1) -> 4
        text(1, 0, 2) -> "-132000000836,-300000001900"
        pour(1, 0) -> 4
        text(0, 0, 4) -> "-44,-100,100,44"
        make(2, 0) -> 4
        pour(2, 0) -> 0
        pour(1, 1) -> IllegalArgumentException
        pour(5, 5) -> IndexOutOfBoundsException
        pour(-1, -1) -> IndexOutOfBoundsException
        pour(0, 5) -> IndexOutOfBoundsException
        pour(-1, 0) -> IndexOutOfBoundsException
        """);
  }

  private static void patterns() {
    Script.run("3 pattern",
        """
        pattern(0, 0, 5, 10, -3, 1) -> 5
        text(0, 0, 5) -> "10,7,4,1,-2"
        pattern(0, 0, 3, -100000, 1000, 100) -> 1
        text(0, 0, 3) -> "-100000,-99000,-98000"
        pattern(0, 1, 8, 5, 2, 3) -> 3
        text(0, 0, 8) -> "5,7,9,5,7,9,5,7"
        pattern(0, 2, 5, 1, 10, 1) -> 3
        text(0, 0, 5) -> "1,11,21,11,1"
        pattern(0, 2, 4, 1, -10, 1) -> 2
        text(0, 0, 4) -> "1,-9,-9,1"
        pattern(0, 3, 8, 100, 1, 5) -> 4
        text(0, 0, 8) -> "100,102,104,102,104,101,104,101"
        pattern(0, 4, 7, 0, 1, 3) -> 3
        text(0, 0, 7) -> "0,1,3,2,4,6,5"
        pattern(0, 4, 6, 0, 1, 3) -> 2
        text(0, 0, 6) -> "0,1,3,2,4,5"
        pattern(0, 4, 4, 0, 1, 1) -> 2
        text(0, 0, 4) -> "1,2,3,0"
        pattern(0, 4, 4, 0, 1, 100) -> 1
        pattern(0, 5, 4, 2, 1, 3) -> 1
        text(0, 0, 4) -> "-98297,-97631,-47681,-37040"
        pattern(0, 5, 2, -1, 0, 1) -> 1
        text(0, 0, 2) -> "32768,32768"
        pattern(0, 5, 3, 65537, 0, 1) -> 1
        text(0, 0, 3) -> "-32768,-32694,-27144"
        pattern(0, 6, 9, 0, 10, 3) -> 3
        text(0, 0, 9) -> "0,10,20,21,11,1,2,12,22"
        pattern(0, 6, 3, 7, 10, 1) -> 1
        text(0, 0, 3) -> "7,8,9"
        """);
    Script.run("3 pattern: the kinds",
        """
        pattern(3, 0, 4, 126, 1, 1) -> 2
        text(3, 0, 4) -> "126,127,-128,-127"
        pattern(2, 0, 3, 1, -1, 1) -> 2
        text(2, 0, 3) -> "1,0,65535"
        pattern(4, 0, 3, 32766, 1, 1) -> 2
        text(4, 0, 3) -> "32766,32767,-32768"
        pattern(1, 0, 2, 100000, 1000, 1) -> 1
        text(1, 0, 2) -> "300000001900000,303000001919000"
        pattern(3, 4, 3, 127, 1, 1) -> 1
        text(3, 0, 3) -> "-128,-127,127"
        """);
    Script.run("3 pattern: bounds",
        """
        pattern(0, 6, 300, 100000, 1000, 100) -> 100
        ofRow(0, 0) -> 300
        pattern(0, 0, 0, -100000, -1000, 1) -> 0
        ofRow(0, 0) -> 0
        pattern(0, 0, 1, 3, 0, 1) -> 1
        pattern(0, 7, 1, 0, 0, 1) -> IllegalArgumentException
        pattern(0, -1, 1, 0, 0, 1) -> IllegalArgumentException
        pattern(0, 0, 301, 0, 0, 1) -> IllegalArgumentException
        pattern(0, 0, -1, 0, 0, 1) -> IllegalArgumentException
        pattern(0, 0, 2, 100001, 0, 1) -> IllegalArgumentException
        pattern(0, 0, 2, -100001, 0, 1) -> IllegalArgumentException
        pattern(0, 0, 2, 0, 1001, 1) -> IllegalArgumentException
        pattern(0, 0, 2, 0, -1001, 1) -> IllegalArgumentException
        pattern(0, 0, 2, 0, 0, 0) -> IllegalArgumentException
        pattern(0, 0, 2, 0, 0, 101) -> IllegalArgumentException
        pattern(5, 7, 301, 0, 0, 0) -> IndexOutOfBoundsException
        pattern(-1, 0, 1, 0, 0, 1) -> IndexOutOfBoundsException
        """);
  }

  // ---- promises 13 to 18

  private static void rowsInOrder() {
    Script.run("13 sort",
        """
        sort(0) -> 0
        pattern(0, 1, 6, 3, -1, 3) -> 5
        text(0, 0, 6) -> "3,2,1,3,2,1"
        sort(0) -> 6
        text(0, 0, 6) -> "1,1,2,2,3,3"
        sort(0) -> 0
        make(1, 3) -> 0
        set(1, 0, 2147483647) -> 0
        set(1, 2, -2147483648) -> 0
        sort(1) -> 2
        text(1, 0, 3) -> "-6442450984802189312,0,6442450981802189293"
        pattern(2, 0, 3, 1, -1, 1) -> 2
        sort(2) -> 2
        text(2, 0, 3) -> "0,1,65535"
        pattern(3, 0, 4, 126, 1, 1) -> 2
        sort(3) -> 4
        text(3, 0, 4) -> "-128,-127,126,127"
        pattern(4, 0, 300, 300, -1, 1) -> 300
        sort(4) -> 300
        text(4, 297, 300) -> "298,299,300"
        sort(-1) -> IndexOutOfBoundsException
        sort(5) -> IndexOutOfBoundsException
        """);
    Script.run("14 sortPart",
        """
        pattern(0, 0, 6, 6, -1, 1) -> 6
        sortPart(0, 1, 4) -> 2
        text(0, 0, 6) -> "6,3,4,5,2,1"
        sortPart(0, 4, 6) -> 2
        text(0, 0, 6) -> "6,3,4,5,1,2"
        sortPart(0, 6, 6) -> 0
        sortPart(0, 0, 1) -> 0
        sortPart(0, 4, 3) -> -9
        sortPart(0, 400, 0) -> -9
        sortPart(0, 0, 7) -> -8
        sortPart(0, 7, 400) -> -8
        sortPart(0, 400, 399) -> IllegalArgumentException
        sortPart(0, -1, 3) -> IllegalArgumentException
        sortPart(0, 0, -1) -> IllegalArgumentException
        sortPart(0, 0, 401) -> IllegalArgumentException
        sortPart(0, 401, 2) -> IllegalArgumentException
        sortPart(5, 401, 2) -> IndexOutOfBoundsException
        sortPart(-1, 0, 0) -> IndexOutOfBoundsException
        sortPart(0, 0, 6) -> 6
        text(0, 0, 6) -> "1,2,3,4,5,6"
        """);
    Script.run("15 sortPieces",
        """
        pattern(3, 0, 8, 8, -1, 1) -> 8
        sortPieces(3, 3) -> 3
        text(3, 0, 8) -> "6,7,8,3,4,5,1,2"
        sortPieces(3, 1) -> 8
        text(3, 0, 8) -> "6,7,8,3,4,5,1,2"
        sortPieces(3, 4) -> 2
        text(3, 0, 8) -> "3,6,7,8,1,2,4,5"
        sortPieces(3, 8) -> 1
        text(3, 0, 8) -> "1,2,3,4,5,6,7,8"
        sortPieces(3, 300) -> 1
        sortPieces(0, 300) -> 0
        sortPieces(3, 0) -> IllegalArgumentException
        sortPieces(3, -1) -> IllegalArgumentException
        sortPieces(3, 301) -> IllegalArgumentException
        sortPieces(5, 0) -> IndexOutOfBoundsException
        sortPieces(-1, 1) -> IndexOutOfBoundsException
        """);
    Script.run("16 insert",
        """
        insert(4, 5) -> 0
        insert(4, 9) -> 1
        insert(4, 65536) -> 0
        insert(4, 7) -> 2
        insert(4, 7) -> 2
        insert(4, 9) -> 4
        text(4, 0, 6) -> "0,5,7,7,9,9"
        set(4, 0, 6) -> 0
        insert(4, 5) -> IllegalStateException
        insert(4, 70000) -> IllegalStateException
        insert(5, 5) -> IndexOutOfBoundsException
        insert(-1, 5) -> IndexOutOfBoundsException
        make(0, 299) -> 0
        insert(0, 1) -> 299
        insert(0, 1) -> IllegalStateException
        ofRow(0, 0) -> 300
        make(1, 299) -> 0
        insert(1, -1) -> 0
        text(1, 0, 2) -> "-3000000019,0"
        at(1, 299) -> 0
        """);
    Script.run("17 drop",
        """
        drop(2, 5) -> -1
        pattern(2, 1, 6, 1, 0, 1) -> 1
        set(2, 0, 0) -> 1
        set(2, 5, 9) -> 1
        drop(2, 65537) -> 1
        text(2, 0, 5) -> "0,1,1,1,9"
        drop(2, 2) -> -5
        drop(2, 10) -> -6
        drop(2, -65536) -> 0
        drop(2, 0) -> -1
        drop(2, 9) -> 3
        text(2, 0, 3) -> "1,1,1"
        drop(2, 1) -> 0
        drop(2, 1) -> 0
        drop(2, 1) -> 0
        ofRow(2, 0) -> 0
        pattern(2, 0, 3, 5, -1, 1) -> 3
        drop(2, 5) -> IllegalStateException
        drop(5, 5) -> IndexOutOfBoundsException
        drop(-1, 5) -> IndexOutOfBoundsException
        make(0, 300) -> 0
        set(0, 299, 4) -> 0
        drop(0, 4) -> 299
        drop(0, 0) -> 0
        ofRow(0, 0) -> 298
        """);
    Script.run("18 thin",
        """
        thin(0) -> 0
        pattern(0, 1, 9, 1, 1, 3) -> 3
        thin(0) -> IllegalStateException
        sort(0) -> 6
        thin(0) -> 6
        text(0, 0, 3) -> "1,2,3"
        ofRow(0, 0) -> 3
        thin(0) -> 0
        make(1, 300) -> 0
        thin(1) -> 299
        text(1, 0, 1) -> "0"
        thin(1) -> 0
        thin(5) -> IndexOutOfBoundsException
        thin(-1) -> IndexOutOfBoundsException
        """);
  }

  // ---- promises 19 to 25

  private static void shelves() {
    Script.run("19 keep",
        """
        pattern(1, 0, 3, 4, 1, 1) -> 1
        keep(1) -> 0
        ofShelf(0, 0) -> 1
        ofShelf(0, 1) -> 3
        onShelf(0, 2) -> 6
        fill(1, 0) -> 3
        onShelf(0, 2) -> 6
        keep(0) -> 1
        ofShelf(1, 1) -> 0
        keep(2) -> 2
        keep(3) -> 3
        keep(4) -> 4
        keep(1) -> 5
        keep(1) -> IllegalStateException
        keep(5) -> IndexOutOfBoundsException
        keep(-1) -> IndexOutOfBoundsException
        throwAway(2) -> 5
        keep(2) -> 5
        ofShelf(5, 0) -> 2
        """);
    Script.run("20 keepPart",
        """
        pattern(3, 0, 5, 1, 1, 1) -> 1
        keepPart(3, 1, 4) -> 0
        ofShelf(0, 0) -> 3
        ofShelf(0, 1) -> 3
        onShelf(0, 0) -> 2
        onShelf(0, 2) -> 4
        keepPart(3, 4, 7) -> 1
        onShelf(1, 0) -> 5
        onShelf(1, 1) -> 0
        onShelf(1, 2) -> 0
        ofShelf(1, 1) -> 3
        keepPart(3, 5, 305) -> 2
        ofShelf(2, 1) -> 300
        keepPart(3, 2, 2) -> 3
        ofShelf(3, 1) -> 0
        keepPart(3, 5, 4) -> -9
        keepPart(3, 6, 7) -> -8
        keepPart(3, 6, 6) -> -8
        keepPart(3, 6, 5) -> IllegalArgumentException
        keepPart(3, 0, 301) -> IllegalArgumentException
        keepPart(3, -1, 4) -> IllegalArgumentException
        keepPart(3, 0, -1) -> IllegalArgumentException
        keepPart(3, 200, 401) -> IllegalArgumentException
        keepPart(3, 401, 4) -> IllegalArgumentException
        keepPart(5, 401, 4) -> IndexOutOfBoundsException
        keepPart(-1, 0, 0) -> IndexOutOfBoundsException
        keep(3) -> 4
        keep(3) -> 5
        keepPart(3, 0, 1) -> IllegalStateException
        keepPart(3, 5, 4) -> IllegalStateException
        keepPart(3, 6, 7) -> IllegalStateException
        keepPart(3, 6, 5) -> IllegalArgumentException
        keepPart(5, 0, 1) -> IndexOutOfBoundsException
        text(3, 0, 5) -> "1,2,3,4,5"
        """);
    Script.run("20 keepPart: no old number comes behind",
        """
        pattern(0, 0, 300, 1, 1, 1) -> 1
        keep(0) -> 0
        throwAway(0) -> 0
        cut(0, 0, 2) -> 2
        keepPart(0, 1, 4) -> 0
        onShelf(0, 0) -> 2
        onShelf(0, 1) -> 0
        onShelf(0, 2) -> 0
        """);
    Script.run("21 layBack",
        """
        pattern(2, 0, 3, 4, 1, 1) -> 1
        keep(2) -> 0
        keep(4) -> 1
        make(2, 7) -> 3
        layBack(0) -> 2
        ofRow(2, 0) -> 3
        text(2, 0, 3) -> "4,5,6"
        set(2, 0, 9) -> 4
        onShelf(0, 0) -> 4
        make(4, 3) -> 0
        layBack(1) -> 4
        ofRow(4, 0) -> 0
        house(0) -> 2
        layBack(2) -> IndexOutOfBoundsException
        layBack(-1) -> IndexOutOfBoundsException
        """);
    Script.run("22 sortShelf",
        """
        pattern(3, 0, 5, 5, -1, 1) -> 5
        keep(3) -> 0
        keep(0) -> 1
        sortShelf(0) -> 4
        onShelf(0, 0) -> 1
        onShelf(0, 4) -> 5
        text(3, 0, 5) -> "5,4,3,2,1"
        sortShelf(0) -> 0
        sortShelf(1) -> 0
        sortShelf(2) -> IndexOutOfBoundsException
        sortShelf(-1) -> IndexOutOfBoundsException
        """);
    Script.run("23 merge",
        """
        pattern(1, 0, 3, 5, -2, 1) -> 3
        keep(1) -> 0
        pattern(1, 0, 2, 4, -4, 1) -> 2
        merge(0) -> 5
        text(1, 0, 5) -> "0,3000000019,9000000057,12000000076,15000000095"
        ofShelf(0, 1) -> 3
        onShelf(0, 0) -> 5
        merge(0) -> 8
        make(1, 297) -> 8
        merge(0) -> 300
        at(1, 296) -> 0
        at(1, 299) -> 5
        merge(0) -> IllegalStateException
        make(1, 298) -> 300
        merge(0) -> IllegalStateException
        merge(1) -> IndexOutOfBoundsException
        merge(-1) -> IndexOutOfBoundsException
        make(0, 300) -> 0
        make(2, 0) -> 0
        keep(2) -> 1
        merge(1) -> 0
        keepPart(0, 300, 300) -> 2
        merge(2) -> 300
        """);
    Script.run("24 throwAway",
        """
        pattern(0, 0, 2, 7, 1, 1) -> 1
        keep(1) -> 0
        keep(0) -> 1
        keep(3) -> 2
        throwAway(1) -> 2
        ofShelf(0, 0) -> 1
        ofShelf(1, 0) -> 3
        throwAway(0) -> 1
        ofShelf(0, 0) -> 3
        throwAway(1) -> IndexOutOfBoundsException
        throwAway(-1) -> IndexOutOfBoundsException
        throwAway(0) -> 0
        throwAway(0) -> IndexOutOfBoundsException
        keep(0) -> 0
        onShelf(0, 1) -> 8
        """);
    Script.run("25 knock",
        """
        knock() -> 1
        knock() -> 2
        house(4) -> 2
        knock() -> 3
        """);
  }

  // ---- promises 26 to 35

  private static void whatIsAsked() {
    Script.run("26 ofRow",
        """
        ofRow(0, 1) -> 1
        ofRow(0, 2) -> 0
        ofRow(0, 3) -> 0
        ofRow(0, 4) -> 0
        pattern(0, 2, 5, 0, 1, 1) -> 3
        ofRow(0, 0) -> 5
        ofRow(0, 1) -> 0
        ofRow(0, 2) -> 3
        ofRow(0, 3) -> 3
        ofRow(0, 4) -> 4
        fill(0, 3) -> 5
        ofRow(0, 1) -> 1
        ofRow(0, 2) -> 1
        ofRow(0, 3) -> 5
        ofRow(0, 4) -> 0
        pattern(0, 0, 300, 0, -1, 1) -> 300
        ofRow(0, 4) -> 44850
        ofRow(0, 3) -> 1
        pattern(2, 0, 3, 1, -1, 1) -> 2
        ofRow(2, 4) -> 1
        ofRow(0, 5) -> IllegalArgumentException
        ofRow(0, -1) -> IllegalArgumentException
        ofRow(5, 5) -> IndexOutOfBoundsException
        ofRow(-1, 0) -> IndexOutOfBoundsException
        """);
    Script.run("27 at",
        """
        at(1, 0) -> IndexOutOfBoundsException
        pattern(1, 0, 3, 4, 1, 1) -> 1
        at(1, 0) -> 4
        at(1, 2) -> 6
        at(1, 3) -> IndexOutOfBoundsException
        at(1, -1) -> IndexOutOfBoundsException
        at(5, 0) -> IndexOutOfBoundsException
        at(-1, 0) -> IndexOutOfBoundsException
        """);
    Script.run("28 text",
        """
        text(0, 0, 0) -> ""
        pattern(0, 0, 50, -10, 10, 1) -> 1
        text(0, 0, 3) -> "-10,0,10"
        text(0, 1, 2) -> "0"
        text(0, 50, 50) -> ""
        text(0, 48, 50) -> "470,480"
        text(0, 10, 50) -> "90,100,110,120,130,140,150,160,170,180,190,200,210,220,230,240,250,260,270,280,290,300,310,320,330,340,350,360,370,380,390,400,410,420,430,440,450,460,470,480"
        text(0, 9, 50) -> IllegalArgumentException
        text(0, 0, 41) -> IllegalArgumentException
        text(0, 3, 2) -> IllegalArgumentException
        text(0, 49, 51) -> IllegalArgumentException
        text(0, 51, 51) -> IllegalArgumentException
        text(0, -1, 2) -> IllegalArgumentException
        text(0, 0, -1) -> IllegalArgumentException
        text(0, 401, 401) -> IllegalArgumentException
        text(5, 401, 401) -> IndexOutOfBoundsException
        text(-1, 0, 0) -> IndexOutOfBoundsException
        """);
    Script.run("29 find",
        """
        find(3, 4) -> -1
        pattern(3, 1, 6, 2, 4, 1) -> 1
        set(3, 5, 7) -> 2
        find(3, 2) -> 0
        find(3, 258) -> 0
        find(3, 7) -> 5
        find(3, 1) -> -1
        find(3, 5) -> -6
        find(3, 8) -> -7
        find(3, 200) -> -1
        set(3, 0, 9) -> 2
        find(3, 9) -> IllegalStateException
        find(5, 9) -> IndexOutOfBoundsException
        find(-1, 9) -> IndexOutOfBoundsException
        """);
    Script.run("30 findPart",
        """
        findPart(0, 0, 0, 5) -> -1
        pattern(0, 1, 9, 1, 2, 3) -> 3
        text(0, 0, 9) -> "1,3,5,1,3,5,1,3,5"
        findPart(0, 3, 6, 1) -> 3
        findPart(0, 3, 6, 5) -> 5
        findPart(0, 3, 6, 0) -> -4
        findPart(0, 3, 6, 4) -> -6
        findPart(0, 3, 6, 9) -> -7
        findPart(0, 3, 3, 9) -> -4
        findPart(0, 9, 9, 9) -> -10
        findPart(0, 3, 7, 9) -> IllegalStateException
        findPart(0, 2, 4, 9) -> IllegalStateException
        findPart(0, 4, 3, 9) -> -1009
        findPart(0, 400, 9, 9) -> -1009
        findPart(0, 0, 10, 9) -> -1008
        findPart(0, 400, 400, 9) -> -1008
        findPart(0, 11, 10, 9) -> IllegalArgumentException
        findPart(0, -1, 3, 9) -> IllegalArgumentException
        findPart(0, 3, -1, 9) -> IllegalArgumentException
        findPart(0, 401, 1, 9) -> IllegalArgumentException
        findPart(0, 0, 401, 9) -> IllegalArgumentException
        findPart(5, 0, 401, 9) -> IndexOutOfBoundsException
        findPart(-1, 0, 0, 9) -> IndexOutOfBoundsException
        fill(0, 3) -> 6
        findPart(0, 2, 9, 3) -> 2
        make(4, 4) -> 0
        findPart(4, 1, 4, 65536) -> 1
        """);
    Script.run("31 count",
        """
        count(2, 0) -> 0
        pattern(2, 1, 7, 65535, 1, 2) -> 4
        count(2, 65535) -> 4
        count(2, -1) -> 4
        count(2, 65536) -> 3
        count(2, 1) -> 0
        count(5, 0) -> IndexOutOfBoundsException
        count(-1, 0) -> IndexOutOfBoundsException
        """);
    Script.run("32 ofShelf",
        """
        ofShelf(0, 0) -> IndexOutOfBoundsException
        pattern(4, 0, 3, 4, -1, 1) -> 3
        keep(4) -> 0
        keep(1) -> 1
        ofShelf(0, 0) -> 4
        ofShelf(0, 1) -> 3
        ofShelf(0, 2) -> 0
        sortShelf(0) -> 2
        ofShelf(0, 2) -> 1
        ofShelf(1, 0) -> 1
        ofShelf(1, 1) -> 0
        ofShelf(1, 2) -> 1
        ofShelf(0, 3) -> IllegalArgumentException
        ofShelf(0, -1) -> IllegalArgumentException
        ofShelf(2, 3) -> IndexOutOfBoundsException
        ofShelf(-1, 0) -> IndexOutOfBoundsException
        """);
    Script.run("33 onShelf",
        """
        onShelf(0, 0) -> IndexOutOfBoundsException
        pattern(1, 0, 3, 4, -1, 1) -> 3
        keep(1) -> 0
        keep(0) -> 1
        onShelf(0, 0) -> 4
        onShelf(0, 2) -> 2
        onShelf(0, 3) -> IndexOutOfBoundsException
        onShelf(0, -1) -> IndexOutOfBoundsException
        onShelf(1, 0) -> IndexOutOfBoundsException
        onShelf(2, 0) -> IndexOutOfBoundsException
        onShelf(-1, 0) -> IndexOutOfBoundsException
        """);
    Script.run("34 unlike",
        """
        pattern(2, 0, 4, 4, 1, 1) -> 1
        keep(2) -> 0
        keep(3) -> 1
        unlike(0) -> -1
        unlike(1) -> -1
        set(2, 3, 9) -> 7
        unlike(0) -> 3
        set(2, 0, 9) -> 4
        unlike(0) -> 0
        layBack(0) -> 2
        resize(2, 3) -> 4
        unlike(0) -> 3
        resize(2, 5) -> 3
        unlike(0) -> 3
        layBack(0) -> 2
        resize(2, 5) -> 4
        unlike(0) -> 4
        make(2, 0) -> 5
        unlike(0) -> 0
        make(3, 1) -> 0
        unlike(1) -> 0
        unlike(2) -> IndexOutOfBoundsException
        unlike(-1) -> IndexOutOfBoundsException
        """);
    Script.run("35 house",
        """
        pattern(0, 0, 4, 1, 1, 1) -> 1
        pattern(1, 0, 3, 1, -1, 1) -> 3
        make(4, 1) -> 0
        keep(0) -> 0
        keep(0) -> 1
        keep(1) -> 2
        knock() -> 1
        knock() -> 2
        house(0) -> 3
        house(1) -> 8
        house(2) -> 11
        house(3) -> 2
        house(4) -> 2
        throwAway(1) -> 2
        house(2) -> 7
        house(5) -> IllegalArgumentException
        house(-1) -> IllegalArgumentException
        """);
  }

  // ---- promises 36 to 43

  private static void whatWouldBe() {
    Script.run("36 nth",
        """
        nth(0, 0) -> IndexOutOfBoundsException
        pattern(0, 1, 6, 3, -1, 3) -> 5
        nth(0, 0) -> 1
        nth(0, 1) -> 1
        nth(0, 2) -> 2
        nth(0, 5) -> 3
        nth(0, 6) -> IndexOutOfBoundsException
        nth(0, -1) -> IndexOutOfBoundsException
        nth(5, 0) -> IndexOutOfBoundsException
        nth(-1, 0) -> IndexOutOfBoundsException
        text(0, 0, 6) -> "3,2,1,3,2,1"
        """);
    Script.run("37 ordered",
        """
        ordered(1, 0, 0) -> ""
        pattern(1, 0, 42, 41, -1, 1) -> 42
        ordered(1, 0, 3) -> "0,3000000019,6000000038"
        ordered(1, 40, 42) -> "120000000760,123000000779"
        ordered(1, 42, 42) -> ""
        ordered(1, 1, 42) -> IllegalArgumentException
        ordered(1, 3, 2) -> IllegalArgumentException
        ordered(1, 41, 43) -> IllegalArgumentException
        ordered(1, 43, 43) -> IllegalArgumentException
        ordered(1, -1, 2) -> IllegalArgumentException
        ordered(1, 0, -1) -> IllegalArgumentException
        ordered(1, 401, 401) -> IllegalArgumentException
        ordered(5, 401, 401) -> IndexOutOfBoundsException
        ordered(-1, 0, 0) -> IndexOutOfBoundsException
        pattern(3, 3, 40, 1, 0, 1) -> 1
        ordered(3, 0, 40) -> "1,1,1,1,1,1,1,1,1,1,1,1,1,1,1,1,1,1,1,1,1,1,1,1,1,1,1,1,1,1,1,1,1,1,1,1,1,1,1,1"
        """);
    Script.run("38 top",
        """
        top(4, 40) -> ""
        pattern(4, 1, 5, -1, 2, 3) -> 2
        text(4, 0, 5) -> "-1,1,3,-1,1"
        top(4, 0) -> ""
        top(4, 1) -> "3"
        top(4, 3) -> "3,1,1"
        top(4, 5) -> "3,1,1,-1,-1"
        top(4, 6) -> "3,1,1,-1,-1"
        top(4, 40) -> "3,1,1,-1,-1"
        top(4, 41) -> IllegalArgumentException
        top(4, -1) -> IllegalArgumentException
        top(5, 41) -> IndexOutOfBoundsException
        top(-1, 0) -> IndexOutOfBoundsException
        """);
    Script.run("39 wouldFind",
        """
        wouldFind(3, 5) -> -1
        pattern(3, 1, 6, 8, -3, 3) -> 5
        text(3, 0, 6) -> "8,5,2,8,5,2"
        wouldFind(3, 2) -> 0
        wouldFind(3, 5) -> 2
        wouldFind(3, 264) -> 4
        wouldFind(3, 1) -> -1
        wouldFind(3, 6) -> -5
        wouldFind(3, 9) -> -7
        wouldFind(5, 9) -> IndexOutOfBoundsException
        wouldFind(-1, 9) -> IndexOutOfBoundsException
        """);
    Script.run("40 would",
        """
        would(0, 0) -> 0
        would(0, 1) -> 0
        would(0, 2) -> 0
        would(0, 3) -> -1
        pattern(0, 1, 7, 30, -10, 3) -> 5
        text(0, 0, 7) -> "30,20,10,30,20,10,30"
        would(0, 0) -> 6
        would(0, 1) -> 3
        would(0, 2) -> 3
        would(0, 3) -> 0
        pattern(0, 0, 4, 30, -10, 3) -> 4
        set(0, 0, 7) -> 30
        would(0, 3) -> 3
        make(0, 1) -> 4
        would(0, 2) -> 1
        would(0, 3) -> -1
        make(1, 2) -> 0
        set(1, 0, 2147483647) -> 0
        set(1, 1, -2147483648) -> 0
        would(1, 3) -> 2147483647
        would(1, 0) -> 2
        set(1, 0, -1) -> 2147483647
        would(1, 3) -> 2147483647
        set(1, 0, -2) -> -1
        would(1, 3) -> 2147483646
        would(0, 4) -> IllegalArgumentException
        would(0, -1) -> IllegalArgumentException
        would(5, 4) -> IndexOutOfBoundsException
        would(-1, 0) -> IndexOutOfBoundsException
        """);
    Script.run("41 mode",
        """
        mode(2) -> IllegalStateException
        pattern(2, 1, 7, 65530, 3, 3) -> 3
        text(2, 0, 7) -> "65530,65533,0,65530,65533,0,65530"
        mode(2) -> 65530
        resize(2, 6) -> 7
        mode(2) -> 0
        resize(2, 2) -> 6
        mode(2) -> 65530
        pattern(1, 0, 3, 4, -4, 1) -> 3
        mode(1) -> -4
        set(1, 0, 0) -> 4
        mode(1) -> 0
        mode(5) -> IndexOutOfBoundsException
        mode(-1) -> IndexOutOfBoundsException
        """);
    Script.run("42 shared",
        """
        shared(0, 0) -> IndexOutOfBoundsException
        pattern(0, 1, 5, 3, -1, 3) -> 4
        keep(0) -> 0
        keep(1) -> 1
        shared(0, 0) -> 1
        shared(0, 1) -> 5
        shared(0, 2) -> 0
        shared(1, 0) -> 1
        shared(1, 1) -> 0
        shared(1, 2) -> 0
        roll(0, 1) -> 3
        shared(0, 0) -> 1
        set(0, 0, 3) -> 2
        shared(0, 0) -> 0
        shared(0, 1) -> 4
        shared(0, 2) -> 0
        set(0, 0, 9) -> 3
        set(0, 1, 9) -> 3
        shared(0, 1) -> 3
        shared(0, 2) -> 1
        layBack(0) -> 0
        resize(0, 6) -> 5
        shared(0, 0) -> 0
        shared(0, 1) -> 5
        shared(0, 2) -> 1
        resize(0, 4) -> 6
        shared(0, 0) -> 0
        shared(0, 1) -> 4
        shared(0, 2) -> 0
        make(1, 2) -> 0
        shared(1, 0) -> 0
        shared(1, 1) -> 0
        shared(1, 2) -> 1
        shared(0, 3) -> IllegalArgumentException
        shared(0, -1) -> IllegalArgumentException
        shared(2, 3) -> IndexOutOfBoundsException
        shared(-1, 0) -> IndexOutOfBoundsException
        """);
    Script.run("43 isSound",
        """
        isSound() -> true
        pattern(0, 5, 300, 1, 1, 100) -> 148
        pattern(3, 5, 300, 1, 1, 100) -> 143
        keep(0) -> 0
        isSound() -> true
        sort(3) -> 296
        merge(0) -> IllegalStateException
        isSound() -> true
        """);
  }

  // ---- promise 44

  private static void digests() {
    digest("a new object", "");
    digest("small rows",
        """
        pattern(0, 1, 7, 30, -10, 3) -> 5
        pattern(1, 0, 3, 4, -4, 1) -> 3
        pattern(2, 2, 8, 100, -30, 1) -> 4
        make(3, 1) -> 0
        keep(0) -> 0
        keepPart(2, 3, 9) -> 1
        set(0, 2, -7) -> 10
        knock() -> 1
        """);
    digest("long rows",
        """
        pattern(4, 5, 300, 9, 5, 99) -> 147
        keep(4) -> 0
        sortShelf(0) -> 299
        keep(1) -> 1
        throwAway(1) -> 1
        """);
  }

  private static void digest(String name, String lines) {
    Script.run("44 digest: " + name, lines);
    long got = Script.after(lines).digest();
    Script.demand("44 digest: " + name, "digest()", got, digestOf(Script.after(lines)));
  }

  /** The checksum, put together from the other answers as the document tells it. */
  private static long digestOf(Rowsorter x) {
    long d = 5113;
    for (int what = 0; what <= 4; what++) {
      d = d * 31 + x.house(what);
    }
    for (int kind = 0; kind <= 4; kind++) {
      int size = x.ofRow(kind, 0);
      for (int what = 0; what <= 3; what++) {
        d = d * 31 + x.ofRow(kind, what);
      }
      for (int place = 0; place < size; place++) {
        d = d * 31 + x.at(kind, place);
      }
      for (int what = 0; what <= 3; what++) {
        d = d * 31 + x.would(kind, what);
      }
      for (int nth : size == 0 ? new int[0] : new int[] {0, size / 2, size - 1}) {
        d = d * 31 + x.nth(kind, nth);
      }
      for (int value : new int[] {-7, 0, 100}) {
        d = d * 31 + x.wouldFind(kind, value);
      }
    }
    int shelves = x.house(0);
    for (int shelf = 0; shelf < shelves; shelf++) {
      for (int what = 0; what <= 2; what++) {
        d = d * 31 + x.ofShelf(shelf, what);
      }
      d = d * 31 + x.unlike(shelf);
      for (int what = 0; what <= 2; what++) {
        d = d * 31 + x.shared(shelf, what);
      }
    }
    return d * 31 + (x.isSound() ? 1 : 0);
  }
}
