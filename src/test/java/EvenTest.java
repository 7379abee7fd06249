/** Promises 7 to 12: number, of, turns, closed, order, worth. */
public final class EvenTest {
  private static final Check check = new Check("EvenTest");

  public static void main(String[] args) {
    numberOfPentagon();
    numberOfCube();
    numberKeepsItsOrder();
    reversesAndDegrees();
    turns();
    closedSetsOfCube();
    hulls();
    orders();
    worths();
    onePoint();
    check.end();
  }

  private static void numberOfPentagon() {
    ShareTables x = Colourings.ring(1, 2, 2, 1);
    int[][][] due = {{{1, 0, 0}, {0, 1, 0}, {0, 0, 1}}, {{0, 1, 0}, {2, 0, 1}, {0, 1, 1}}, {{0, 0, 1}, {0, 1, 1}, {2, 1, 0}}};
    for (int i = 0; i < 3; i++) {
      for (int j = 0; j < 3; j++) {
        for (int k = 0; k < 3; k++) {
          check.due("pentagon: number(" + i + ", " + j + ", " + k + ")", x.number(i, j, k), due[i][j][k]);
        }
      }
    }
  }

  private static void numberOfCube() {
    ShareTables x = Colourings.cube();
    check.due("cube: number(1, 1, 0)", x.number(1, 1, 0), 3);
    check.due("cube: number(1, 1, 2)", x.number(1, 1, 2), 2);
    check.due("cube: number(1, 2, 1)", x.number(1, 2, 1), 2);
    check.due("cube: number(1, 2, 3)", x.number(1, 2, 3), 3);
    check.due("cube: number(2, 3, 1)", x.number(2, 3, 1), 1);
    check.due("cube: number(2, 2, 3)", x.number(2, 2, 3), 0);
    check.due("cube: number(3, 3, 0)", x.number(3, 3, 0), 1);
  }

  // Of the five directions of a ring i and j lead to i + j, not to another.
  private static void numberKeepsItsOrder() {
    ShareTables x = Colourings.ring(1, 2, 3, 4);
    for (int i = 0; i < 5; i++) {
      for (int j = 0; j < 5; j++) {
        for (int k = 0; k < 5; k++) {
          check.due("directions: number(" + i + ", " + j + ", " + k + ")", x.number(i, j, k), (i + j) % 5 == k ? 1 : 0);
        }
      }
    }
    ShareTables seven = Colourings.ring(1, 1, 2, 1, 2, 2);
    check.due("seven: number(1, 1, 1)", seven.number(1, 1, 1), 1);
    check.due("seven: number(1, 1, 2)", seven.number(1, 1, 2), 2);
    check.due("seven: number(1, 1, 0)", seven.number(1, 1, 0), 0);
    check.due("seven: number(1, 2, 0)", seven.number(1, 2, 0), 3);
  }

  private static void reversesAndDegrees() {
    ShareTables five = Colourings.ring(1, 2, 3, 4);
    for (int i = 0; i < 5; i++) {
      check.due("directions: of(" + i + ", 0)", five.of(i, 0), (5 - i) % 5);
      check.due("directions: of(" + i + ", 1)", five.of(i, 1), 1);
    }
    ShareTables cube = Colourings.cube();
    int[] degrees = {1, 3, 3, 1};
    for (int i = 0; i < 4; i++) {
      check.due("cube: of(" + i + ", 0)", cube.of(i, 0), i);
      check.due("cube: of(" + i + ", 1)", cube.of(i, 1), degrees[i]);
    }
    ShareTables seven = Colourings.ring(1, 1, 2, 1, 2, 2);
    check.due("seven: of(1, 0)", seven.of(1, 0), 2);
    check.due("seven: of(2, 1)", seven.of(2, 1), 3);
  }

  private static void turns() {
    check.due("one point: turns()", new ShareTables().turns(), 1);
    check.due("directions: turns()", Colourings.ring(1, 2, 3, 4).turns(), 1);
    check.due("cube: turns()", Colourings.cube().turns(), 1);
  }

  private static void closedSetsOfCube() {
    ShareTables x = Colourings.cube();
    for (int set = 0; set < 16; set++) {
      boolean due = set == 1 || set == 5 || set == 9 || set == 15;
      check.due("cube: closed(" + set + ", 0)", x.closed(set, 0), due ? 1 : 0);
    }
    for (int set : new int[] {0, 15, 16, 99, -1, Integer.MIN_VALUE, Integer.MAX_VALUE}) {
      check.due("cube: closed(" + set + ", 2)", x.closed(set, 2), 4);
    }
    check.due("five directions: closed(0, 2)", Colourings.ring(1, 2, 3, 4).closed(0, 2), 2);
    check.due("six: closed(0, 2)", Colourings.ring(1, 2, 3, 2, 1).closed(0, 2), 4);
  }

  private static void hulls() {
    ShareTables x = Colourings.cube();
    int[] due = {1, 1, 15, 15, 5, 5, 15, 15, 9, 9, 15, 15, 15, 15, 15, 15};
    for (int set = 0; set < 16; set++) {
      check.due("cube: closed(" + set + ", 1)", x.closed(set, 1), due[set]);
    }
    // Two steps of 2 lead to both 1 and 2.
    ShareTables seven = Colourings.ring(1, 1, 2, 1, 2, 2);
    check.due("seven: closed(5, 0)", seven.closed(5, 0), 0);
    check.due("seven: closed(4, 1)", seven.closed(4, 1), 7);
    // 1 leads to 2, 2 to 3 and 4 only behind another: a hull that needs several rounds.
    ShareTables five = Colourings.ring(1, 2, 3, 4);
    check.due("five directions: closed(2, 1)", five.closed(2, 1), 31);
    check.due("eight: closed(2, 1)", Colourings.ring(1, 2, 3, 4, 3, 2, 1).closed(2, 1), 31);
    check.due("eight: closed(4, 1)", Colourings.ring(1, 2, 3, 4, 3, 2, 1).closed(4, 1), 21);
  }

  private static void orders() {
    ShareTables x = Colourings.cube();
    int[] due = {1, 1, 8, 8, 4, 4, 8, 8, 2, 2, 8, 8, 8, 8, 8, 8};
    for (int set = 0; set < 16; set++) {
      check.due("cube: order(" + set + ")", x.order(set), due[set]);
    }
    check.due("six: order(4)", Colourings.ring(1, 2, 3, 2, 1).order(4), 3);
    check.due("six: order(8)", Colourings.ring(1, 2, 3, 2, 1).order(8), 2);
  }

  private static void worths() {
    ShareTables x = Colourings.cube();
    int[][] due = {{1, 3, 3, 1}, {1, 24, 12, 2}, {2, 24, 14, 2}};
    for (int kind = 0; kind < 3; kind++) {
      for (int i = 0; i < 4; i++) {
        check.due("cube: worth(" + kind + ", " + i + ")", x.worth(kind, i), due[kind][i]);
      }
    }
    ShareTables all = new ShareTables();
    all.points(8);
    check.due("eight alike: worth(2, 1)", all.worth(2, 1), 7 * 8 + 6);
  }

  private static void onePoint() {
    ShareTables x = new ShareTables();
    check.due("one point: number(0, 0, 0)", x.number(0, 0, 0), 1);
    check.due("one point: number(0, 0, 1)", x.number(0, 0, 1), -1);
    check.due("one point: of(0, 0)", x.of(0, 0), 0);
    check.due("one point: of(0, 1)", x.of(0, 1), 1);
    check.due("one point: closed(1, 0)", x.closed(1, 0), 1);
    check.due("one point: closed(0, 1)", x.closed(0, 1), 1);
    check.due("one point: closed(2, 0)", x.closed(2, 0), -1);
    check.due("one point: closed(0, 2)", x.closed(0, 2), 1);
    check.due("one point: order(0)", x.order(0), 1);
    check.due("one point: worth(2, 0)", x.worth(2, 0), 2);
  }
}
