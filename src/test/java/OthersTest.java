/** Promises 13 to 16: fuse, quotient, weight, chance. */
public final class OthersTest {
  private static final Check check = new Check("OthersTest");

  public static void main(String[] args) {
    fuse();
    fuseByOtherNames();
    fuseThatWouldNotBeEven();
    fuseOfFewColours();
    quotientsOfCube();
    quotientsOfRings();
    quotientsKeepDirections();
    blocksByTheirLeastPoints();
    quotientsKeepWeights();
    weights();
    chances();
    chancesByDirections();
    chancesOfAllColours();
    check.end();
  }

  /** The map's number from what the colours 1, 2, .. become. */
  private static int map(int... becomes) {
    return Colourings.digits(becomes);
  }

  private static void fuse() {
    ShareTables x = Colourings.cube();
    check.due("cube: fuse 1 and 3", x.fuse(map(1, 2, 1)), 1);
    check.due("colours", Colourings.rowsOf(x), byOddBits());
    check.due("rank", x.count(1), 3);
    check.due("fails()", x.fails(), 0);
    check.due("number(1, 1, 0)", x.number(1, 1, 0), 4);
    check.due("number(1, 1, 2)", x.number(1, 1, 2), 4);
    check.due("fuse the rest", x.fuse(map(1, 1)), 1);
    check.due("rank", x.count(1), 2);
    check.due("number(1, 1, 1)", x.number(1, 1, 1), 6);
    ShareTables matched = Colourings.cube();
    check.due("cube: fuse 1 and 2", matched.fuse(map(1, 1, 2)), 1);
    check.due("of(1, 1)", matched.of(1, 1), 6);
    ShareTables five = Colourings.ring(1, 2, 3, 4);
    check.due("five directions: both ways", five.fuse(map(1, 2, 2, 1)), 1);
    check.due("pentagon", Colourings.rowsOf(five), "01221 10122 21012 22101 12210");
  }

  private static String byOddBits() {
    StringBuilder text = new StringBuilder();
    for (int a = 0; a < 8; a++) {
      text.append(a == 0 ? "" : " ");
      for (int b = 0; b < 8; b++) {
        text.append(a == b ? 0 : Integer.bitCount(a ^ b) % 2 == 1 ? 1 : 2);
      }
    }
    return text.toString();
  }

  private static void fuseByOtherNames() {
    ShareTables x = Colourings.ring(1, 2, 3, 4);
    check.due("fuse(2, 4, 1, 3)", x.fuse(map(2, 4, 1, 3)), 1);
    check.due("colours", Colourings.rowsOf(x), "02413 30241 13024 41302 24130");
    check.due("of(2, 0)", x.of(2, 0), 3);
    check.due("fuse(624) would leave no 1", x.fuse(624), 0);
  }

  private static void fuseThatWouldNotBeEven() {
    check.still(Colourings::cube, "cube: fuse 2 and 3", x -> x.fuse(map(1, 2, 2)), 0);
    check.still(Colourings::cube, "cube: no 1", x -> x.fuse(map(2, 2, 2)), 0);
    check.still(Colourings::cube, "cube: no 2", x -> x.fuse(map(1, 3, 4)), 0);
    ShareTables cube = Colourings.cube();
    cube.fuse(map(1, 2, 2));
    check.due("cube: number(1, 1, 2) as before", cube.number(1, 1, 2), 2);
    ShareTables five = Colourings.ring(1, 2, 3, 4);
    check.due("five directions: one way each", five.fuse(map(1, 1, 2, 2)), 0);
    check.due("five directions: an uneven reversal", five.fuse(map(1, 1, 1, 2)), 0);
    check.due("five directions: of(1, 0) as before", five.of(1, 0), 4);
  }

  private static void fuseOfFewColours() {
    check.still(Colourings::cube, "cube: a digit 0 of colour 4", x -> x.fuse(map(1, 2, 3, 0)), 1);
    check.still(Colourings::cube, "cube: a digit of colour 4", x -> x.fuse(map(1, 2, 3, 3)), 1);
    check.still(() -> Colourings.alike(4), "fuse(1) of one colour", x -> x.fuse(1), 1);
    check.still(() -> Colourings.alike(4), "fuse(3 behind a 1)", x -> x.fuse(map(1, 0, 3)), 1);
    check.still(() -> Colourings.alike(4), "fuse to 2", x -> x.fuse(2), 0);
  }

  private static void quotientsOfCube() {
    ShareTables opposite = Colourings.cube();
    check.due("cube: quotient(8)", opposite.quotient(8), 4);
    check.due("four alike", State.plain(opposite), "4 points 0111 1011 1101 1110 rank 2 even 1 fails 0 weights 1 1 1 1 1 trace 0");
    ShareTables halves = Colourings.cube();
    check.due("cube: quotient(5)", halves.quotient(5), 2);
    check.due("two", Colourings.rowsOf(halves), "01 10");
    ShareTables whole = Colourings.cube();
    check.due("cube: quotient(2)", whole.quotient(2), 1);
    check.due("one", State.plain(whole), "1 points 0 rank 1 even 1 fails 0 weights 1 1 1 1 1 trace 0");
    check.due("one: quotient(1)", whole.quotient(1), 1);
    check.still(Colourings::cube, "cube: quotient(0)", x -> x.quotient(0), 8);
    check.still(Colourings::cube, "cube: quotient(1)", x -> x.quotient(1), 8);
  }

  private static void quotientsOfRings() {
    ShareTables six = Colourings.ring(1, 2, 3, 2, 1);
    check.due("six: quotient(8)", six.quotient(8), 3);
    check.due("three", Colourings.rowsOf(six), "011 101 110");
    ShareTables eight = Colourings.ring(1, 2, 3, 4, 3, 2, 1);
    check.due("eight: quotient(16)", eight.quotient(16), 4);
    check.due("1 and 3 are one", Colourings.rowsOf(eight), "0121 1012 2101 1210");
    check.due("then number(1, 1, 2)", eight.number(1, 1, 2), 2);
    check.due("then quotient(4)", eight.quotient(4), 2);
    ShareTables hull = Colourings.ring(1, 2, 3, 4, 3, 2, 1);
    check.due("eight: quotient(4), by its hull", hull.quotient(4), 2);
  }

  private static void quotientsKeepDirections() {
    check.still(() -> Colourings.ring(1, 2, 3), "four directions: quotient(1)", x -> x.quotient(1), 4);
    ShareTables six = Colourings.ring(2, 3, 1, 2, 3);
    check.due("six by its opposite ones: quotient(2)", six.quotient(2), 3);
    check.due("2 becomes 1, 3 becomes 2", Colourings.rowsOf(six), "012 201 120");
  }

  private static void blocksByTheirLeastPoints() {
    int[] place = {0, 2, 3, 1, 5, 4};
    int[] colours = {0, 2, 3, 1, 2, 3};
    ShareTables x = new ShareTables();
    x.points(6);
    for (int a = 0; a < 6; a++) {
      for (int b = 0; b < 6; b++) {
        x.colour(a, b, colours[(place[b] - place[a] + 6) % 6]);
      }
    }
    check.due("six in disorder: quotient(3)", x.quotient(3), 3);
    check.due("blocks", Colourings.rowsOf(x), "021 102 210");
    ShareTables pairs = Colourings.rows("0112", "1021", "1201", "2110");
    check.due("two pairs: quotient(4)", pairs.quotient(4), 2);
    check.due("blocks", Colourings.rowsOf(pairs), "01 10");
  }

  private static void quotientsKeepWeights() {
    ShareTables x = Colourings.cube();
    x.weight(0, 2);
    x.weight(1, 5);
    x.weight(3, 7);
    x.worth(1, 2);
    x.quotient(8);
    check.due("weights and trace stay", State.plain(x), "4 points 0111 1011 1101 1110 rank 2 even 1 fails 0 weights 2 5 1 7 1 trace 11");
    check.due("count(3)", x.count(3), 7);
  }

  private static void weights() {
    ShareTables x = new ShareTables();
    for (int i = 0; i < 5; i++) {
      check.due("weight(" + i + ", " + (9 - i) + ")", x.weight(i, 9 - i), 1);
    }
    for (int i = 0; i < 5; i++) {
      check.due("weight(" + i + ", 0)", x.weight(i, 0), 9 - i);
      check.due("weight(" + i + ", 9)", x.weight(i, 9), 0);
    }
  }

  private static void chance(ShareTables x, int i, int t, long upper, long lower) {
    check.due("chance(" + i + ", " + t + ", 0)", x.chance(i, t, 0), upper);
    check.due("chance(" + i + ", " + t + ", 1)", x.chance(i, t, 1), lower);
  }

  private static void chances() {
    ShareTables one = new ShareTables();
    chance(one, 0, 0, 1, 1);
    chance(one, 0, 6, 1, 1);
    ShareTables four = new ShareTables();
    four.points(4);
    chance(four, 0, 0, 1, 1);
    chance(four, 1, 0, 0, 1);
    chance(four, 0, 1, 1, 2);
    chance(four, 0, 2, 1, 3);
    chance(four, 1, 2, 2, 3);
    four.weight(0, 3);
    chance(four, 0, 1, 3, 4);
    chance(four, 1, 1, 1, 4);
    ShareTables cube = Colourings.cube();
    cube.weight(0, 0);
    cube.weight(1, 4);
    cube.weight(2, 0);
    cube.weight(3, 0);
    chance(cube, 2, 2, 2, 3);
    chance(cube, 3, 3, 2, 9);
    chance(cube, 1, 3, 7, 9);
    chance(cube, 0, 6, 61, 243);
    chance(cube, 2, 6, 182, 243);
    chance(cube, 1, 6, 0, 1);
  }

  private static void chancesByDirections() {
    ShareTables five = Colourings.ring(1, 2, 3, 4);
    for (int i = 0; i < 5; i++) {
      five.weight(i, i == 1 ? 9 : 0);
    }
    for (int t = 0; t <= 6; t++) {
      for (int i = 0; i < 5; i++) {
        chance(five, i, t, i == t % 5 ? 1 : 0, 1);
      }
    }
    five.weight(4, 1);
    chance(five, 2, 2, 81, 100);
    chance(five, 0, 2, 9, 50);
    chance(five, 3, 2, 1, 100);
  }

  // All colours together have the chance one, by the greatest weights too.
  private static void chancesOfAllColours() {
    ShareTables x = Colourings.ring(1, 2, 3, 4, 3, 2, 1);
    int[] weights = {9, 8, 9, 7, 9};
    for (int i = 0; i < 5; i++) {
      x.weight(i, weights[i]);
    }
    double together = 0;
    for (int i = 0; i < 5; i++) {
      together += (double) x.chance(i, 6, 0) / x.chance(i, 6, 1);
    }
    check.holds("the chances of all colours come to " + together, Math.abs(together - 1) < 1e-9);
  }
}
