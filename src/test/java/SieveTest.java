/** Promises 17 and 18: sieve, many. */
public final class SieveTest {
  private static final Check check = new Check("SieveTest");
  private static final ShareTables x = new ShareTables();

  public static void main(String[] args) {
    tablesThatPass();
    failsByCounts();
    failsByWholeMultiplicities();
    failsByRoots();
    failsByMultiplicities();
    limits();
    many();
    check.end();
  }

  private static void due(int n, int k, int l, int m, int want) {
    check.due("sieve(" + n + ", " + k + ", " + l + ", " + m + ")", x.sieve(n, k, l, m), want);
  }

  private static void tablesThatPass() {
    due(13, 6, 2, 3, 0);
    due(15, 6, 1, 3, 0);
    due(16, 5, 0, 2, 0);
    due(27, 10, 1, 5, 0);
    due(27, 16, 10, 8, 0);
    due(56, 10, 0, 2, 0);
    due(77, 16, 0, 4, 0);
    due(112, 30, 2, 10, 0);
    due(162, 56, 10, 24, 0);
    due(9, 2, 1, 0, 0);
    due(9, 6, 3, 6, 0);
    due(6, 1, 0, 0, 0);
  }

  private static void failsByCounts() {
    due(10, 3, 0, 0, 1);
    due(10, 3, 1, 1, 1);
    due(15, 6, 1, 2, 1);
    due(15, 6, 2, 3, 1);
    due(200, 100, 50, 51, 1);
  }

  private static void failsByWholeMultiplicities() {
    // d is no square.
    due(7, 3, 1, 1, 2);
    due(11, 5, 2, 2, 2);
    due(17, 4, 0, 1, 2);
    // c by the root is no whole number.
    due(10, 2, 1, 0, 2);
    due(10, 7, 4, 7, 2);
    due(11, 6, 1, 6, 2);
    // c by the root is whole, but has no whole half with n - 1.
    due(3, 1, 0, 0, 2);
    due(5, 1, 0, 0, 2);
    due(10, 6, 2, 6, 2);
    due(14, 10, 6, 10, 2);
    // c is 0 and n odd: nothing else is asked.
    due(21, 10, 4, 5, 0);
    due(33, 16, 7, 8, 0);
    due(197, 98, 48, 49, 0);
  }

  private static void failsByRoots() {
    due(28, 9, 0, 4, 3);
    due(28, 18, 12, 10, 3);
  }

  private static void failsByMultiplicities() {
    due(50, 21, 4, 12, 4);
    due(50, 28, 18, 12, 4);
  }

  private static void limits() {
    due(3, 1, 0, 1, 1);
    due(200, 198, 197, 198, 1);
    due(200, 198, 196, 198, 0);
    due(200, 1, 0, 0, 0);
    due(200, 199, 0, 0, -1);
    due(199, 1, 0, 0, 2);
    due(200, 198, 197, 0, 2);
  }

  private static void many() {
    int[] due = {0, 0, 1, 1, 2, 0, 2, 2, 3};
    for (int n = 2; n <= 10; n++) {
      check.due("many(" + n + ")", x.many(n), due[n - 2]);
    }
    check.due("many(16)", x.many(16), 5);
    check.due("many(40)", x.many(40), 7);
  }
}
