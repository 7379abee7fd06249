/** Promises 19 and 20: count, trace. */
public final class CountTraceTest {
  private static final Check check = new Check("CountTraceTest");

  public static void main(String[] args) {
    counts();
    countOfWeights();
    traces();
    check.end();
  }

  private static void counts() {
    ShareTables x = new ShareTables();
    check.due("new: count(0)", x.count(0), 1);
    check.due("new: count(1)", x.count(1), 1);
    check.due("new: count(2)", x.count(2), 1);
    check.due("new: count(3)", x.count(3), 1);
    ShareTables cube = Colourings.cube();
    check.due("cube: count(0)", cube.count(0), 8);
    check.due("cube: count(1)", cube.count(1), 4);
    check.due("cube: count(2)", cube.count(2), 1);
    check.due("cube: count(3)", cube.count(3), 4);
    ShareTables uneven = Colourings.rows("0122", "1012", "2101", "2210");
    check.due("uneven: count(0)", uneven.count(0), 4);
    check.due("uneven: count(1)", uneven.count(1), 3);
    check.due("uneven: count(2)", uneven.count(2), 0);
    check.due("uneven: count(3)", uneven.count(3), 3);
  }

  private static void countOfWeights() {
    ShareTables x = new ShareTables();
    x.points(2);
    x.weight(0, 5);
    x.weight(2, 9);
    check.due("count(3) below rank 2", x.count(3), 6);
    x.colour(0, 1, 2);
    check.due("count(3) below rank 3", x.count(3), 15);
    x.colour(0, 1, 4);
    check.due("count(3) below rank 5", x.count(3), 17);
    x.points(1);
    check.due("count(3) below rank 1", x.count(3), 5);
    x.weight(0, 0);
    check.due("count(3) of none", x.count(3), 0);
  }

  private static void traces() {
    ShareTables x = Colourings.cube();
    check.due("at first", x.trace(), 0);
    x.worth(0, 1);
    check.due("behind worth(0, 1)", x.trace(), 1);
    x.worth(1, 1);
    check.due("behind worth(1, 1)", x.trace(), 12);
    x.worth(2, 1);
    check.due("behind worth(2, 1)", x.trace(), 123);
    x.worth(2, 0);
    check.due("behind worth(2, 0)", x.trace(), 234);
    check.due("asked again", x.trace(), 234);
  }
}
