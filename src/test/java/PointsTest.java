/** Promises 1 to 6: a new object, points, colour, at, ring, fails. */
public final class PointsTest {
  private static final Check check = new Check("PointsTest");

  public static void main(String[] args) {
    newObject();
    points();
    pointsKeepWeightsAndTrace();
    colourAndAt();
    ring();
    failsByMisplacedZero();
    failsByMissingColour();
    failsByReversal();
    failsByCounts();
    failsInOrder();
    check.end();
  }

  private static void newObject() {
    check.due("a new object", State.plain(new ShareTables()), "1 points 0 rank 1 even 1 fails 0 weights 1 1 1 1 1 trace 0");
  }

  private static void points() {
    ShareTables x = new ShareTables();
    check.due("points(8)", x.points(8), 1);
    check.due("points(3)", x.points(3), 8);
    check.due("colours", Colourings.rowsOf(x), "011 101 110");
    x.colour(0, 1, 4);
    x.colour(2, 2, 3);
    check.due("points(3) anew", x.points(3), 3);
    check.due("colours anew", Colourings.rowsOf(x), "011 101 110");
    check.due("points(1)", x.points(1), 3);
    check.due("colours of one point", Colourings.rowsOf(x), "0");
    check.due("rank of one point", x.count(1), 1);
  }

  private static void pointsKeepWeightsAndTrace() {
    ShareTables x = new ShareTables();
    x.points(4);
    x.weight(1, 7);
    x.worth(1, 1);
    x.points(2);
    check.due("weights and trace stay", State.plain(x), "2 points 01 10 rank 2 even 1 fails 0 weights 1 7 1 1 1 trace 11");
  }

  private static void colourAndAt() {
    ShareTables x = new ShareTables();
    x.points(3);
    check.due("colour(0, 2, 4)", x.colour(0, 2, 4), 1);
    check.due("colour(0, 2, 3)", x.colour(0, 2, 3), 4);
    check.due("colour(1, 1, 2)", x.colour(1, 1, 2), 0);
    check.due("at(0, 2)", x.at(0, 2), 3);
    check.due("at(2, 0)", x.at(2, 0), 1);
    check.due("at(1, 1)", x.at(1, 1), 2);
    check.due("colours", Colourings.rowsOf(x), "013 121 110");
    check.due("rank", x.count(1), 4);
    x.colour(0, 2, 0);
    check.due("rank falls with the greatest colour", x.count(1), 3);
    ShareTables corner = new ShareTables();
    corner.points(8);
    check.due("colour(7, 7, 4)", corner.colour(7, 7, 4), 0);
    check.due("at(7, 7)", corner.at(7, 7), 4);
    check.due("at(7, 6)", corner.at(7, 6), 1);
  }

  private static void ring() {
    ShareTables x = new ShareTables();
    check.due("ring(0) of one point", x.ring(0), 1);
    x.points(4);
    check.due("ring of 1, 2, 3", x.ring(Colourings.digits(1, 2, 3)), 1);
    check.due("colours", Colourings.rowsOf(x), "0123 3012 2301 1230");
    x.colour(0, 0, 3);
    x.colour(2, 2, 4);
    check.due("ring of 1, 2, 1", x.ring(Colourings.digits(1, 2, 1)), 1);
    check.due("a point's own pair is 0 again", Colourings.rowsOf(x), "0121 1012 2101 1210");
    check.due("ring of 1, 1, 2 is not even", x.ring(Colourings.digits(1, 1, 2)), 0);
    check.due("but it stays", Colourings.rowsOf(x), "0112 2011 1201 1120");
    check.due("and fails", x.fails() > 0 ? 1 : 0, 1);
    check.due("ring(0) of four", x.ring(0), 0);
    check.due("fails", x.fails(), 101);
    x.points(8);
    check.due("the greatest digits", x.ring(78124), 0);
    check.due("at(7, 0)", x.at(7, 0), 4);
    check.due("fails by the missing 1", x.fails(), 200);
    x.points(5);
    check.due("pentagon", x.ring(Colourings.digits(1, 2, 2, 1)), 1);
    check.due("five directions", x.ring(Colourings.digits(1, 2, 3, 4)), 1);
    check.due("fives, not even", x.ring(Colourings.digits(1, 1, 2, 1)), 0);
  }

  private static void failsByMisplacedZero() {
    check.due("a 0 between two", Colourings.rows("011", "101", "100").fails(), 121);
    check.due("a 1 on one", Colourings.rows("011", "111", "110").fails(), 111);
    check.due("the first of both", Colourings.rows("011", "111", "101").fails(), 111);
    check.due("by a, then b", Colourings.rows("011", "001", "010").fails(), 110);
    check.due("one point", Colourings.rows("1").fails(), 100);
    check.due("two points, all 0", Colourings.rows("00", "00").fails(), 101);
  }

  private static void failsByMissingColour() {
    check.due("no 1", Colourings.rows("02", "20").fails(), 200);
    check.due("no 2", Colourings.rows("013", "101", "310").fails(), 200);
    check.due("no 3, not reversed", Colourings.rows("0124", "1012", "1101", "1110").fails(), 200);
    check.due("no 0 comes behind its place", Colourings.rows("11", "11").fails(), 100);
  }

  private static void failsByReversal() {
    check.due("first at (2, 1)", Colourings.rows("011", "102", "110").fails(), 321);
    check.due("first at (0, 2)", Colourings.rows("011", "101", "210").fails(), 302);
    check.due("a ring of two directions", Colourings.rows("012", "201", "120").fails(), 0);
    check.due("against the first pair", Colourings.rows("012", "101", "220").fails(), 312);
  }

  private static void failsByCounts() {
    check.due("two ways of two", Colourings.rows("01", "20").fails(), 411);
    check.due("a path of three", Colourings.rows("012", "101", "210").fails(), 410);
    check.due("uneven four", Colourings.rows("0122", "1022", "2201", "2210").fails(), 0);
    check.due("a path of four", Colourings.rows("0122", "1012", "2101", "2210").fails(), 403);
    check.due("a matching not whole", Colourings.rows("0211", "2011", "1101", "1110").fails(), 420);
    check.due("seven by two", Colourings.ring(1, 2, 2, 2, 2, 1).fails(), 403);
    check.due("six: 1, 2, 3, 2, 1", Colourings.ring(1, 2, 3, 2, 1).fails(), 0);
    check.due("cube", Colourings.cube().fails(), 0);
  }

  private static void failsInOrder() {
    ShareTables x = Colourings.rows("0133", "0011", "1101", "1110");
    check.due("zero first", x.fails(), 110);
    x.colour(1, 0, 1);
    check.due("then the missing one", x.fails(), 200);
    x.colour(0, 2, 2);
    check.due("then the reversal", x.fails(), 320);
    check.due("count(2)", x.count(2), 0);
    x.points(4);
    check.due("even again", x.fails(), 0);
  }
}
