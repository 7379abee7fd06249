import java.util.function.ToLongFunction;

/** Refused calls, each on new objects of every kind that matters to it. */
final class Refusals {
  private final Check check;

  Refusals(Check check) {
    this.check = check;
  }

  /** BAD where it is even, of the rank told. */
  void bad(int rank, String call, ToLongFunction<ShareTables> made) {
    check.still(() -> Colourings.even(rank), "rank " + rank + ": " + call, made, ShareTables.BAD);
  }

  /** BAD although it is not even either, by each of the four ways to fail; the rank is 3. */
  void badFirst(String call, ToLongFunction<ShareTables> made) {
    byEachWay(call, made, ShareTables.BAD);
  }

  /** STATE by each of the four ways to fail; the rank is 3. */
  void uneven(String call, ToLongFunction<ShareTables> made) {
    byEachWay(call, made, ShareTables.STATE);
  }

  private void byEachWay(String call, ToLongFunction<ShareTables> made, int want) {
    for (int kind = 1; kind <= 4; kind++) {
      int way = kind;
      check.still(() -> Colourings.uneven(way), "uneven by " + kind + ": " + call, made, want);
    }
  }
}
