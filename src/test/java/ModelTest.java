import java.util.ArrayList;
import java.util.List;

/** Holds the program against the model: all rings, the schemes of a group, the sieve, mixed runs. */
public final class ModelTest {
  private static final Check check = new Check("ModelTest");
  private static final List<List<Integer>> evenRings = new ArrayList<>();

  public static void main(String[] args) {
    allRings();
    pairsOfBits();
    sieve();
    many();
    mixedRuns();
    check.end();
  }

  private static void allRings() {
    evenRings.add(List.of());
    for (int n = 1; n <= 8; n++) {
      List<Integer> even = new ArrayList<>();
      for (int digits = 0; digits < (int) Math.pow(5, n - 1); digits++) {
        ShareTables x = new ShareTables();
        Model y = new Model();
        x.points(n);
        y.points(n);
        int got = x.ring(digits);
        check.due("ring(" + digits + ") of " + n, got, y.ring(digits));
        check.due("fails() of ring(" + digits + ") of " + n, x.fails(), y.fails());
        if (got == 1) {
          even.add(digits);
          askEverything(x, y);
        }
      }
      evenRings.add(even);
    }
  }

  // All colourings of eight points in which the colour of a pair hangs on a ^ b alone.
  private static void pairsOfBits() {
    for (int map = 0; map < 1 << 14; map++) {
      ShareTables x = new ShareTables();
      Model y = new Model();
      x.points(8);
      y.points(8);
      for (int pair = 0; pair < 64; pair++) {
        int difference = pair / 8 ^ pair % 8;
        int c = difference == 0 ? 0 : 1 + (map >> 2 * (difference - 1) & 3);
        x.colour(pair / 8, pair % 8, c);
        y.colour(pair / 8, pair % 8, c);
      }
      check.due("fails() of bits " + map, x.fails(), y.fails());
      if (x.fails() == 0) {
        askEverything(x, y);
      }
    }
  }

  private static void askEverything(ShareTables x, Model y) {
    int rank = x.count(1);
    for (int what = 0; what < 4; what++) {
      check.due("count(" + what + ")", x.count(what), y.count(what));
    }
    for (int ijk = 0; ijk < rank * rank * rank; ijk++) {
      int i = ijk % rank;
      int j = ijk / rank % rank;
      int k = ijk / rank / rank;
      check.due("number", x.number(i, j, k), y.number(i, j, k));
    }
    for (int i = 0; i < rank; i++) {
      check.due("reverse", x.of(i, 0), y.of(i, 0));
      check.due("degree", x.of(i, 1), y.of(i, 1));
      for (int kind = 0; kind < 3; kind++) {
        check.due("worth", x.worth(kind, i), y.worth(kind, i));
      }
      check.due("upper part", x.chance(i, 1 + i, 0), y.chance(i, 1 + i, 0));
      check.due("lower part", x.chance(i, 1 + i, 1), y.chance(i, 1 + i, 1));
    }
    check.due("trace", x.trace(), y.trace());
    check.due("turns", x.turns(), y.turns());
    for (int set = 0; set < 1 << rank; set++) {
      check.due("closed", x.closed(set, 0), y.closed(set, 0));
      check.due("hull", x.closed(set, 1), y.closed(set, 1));
      check.due("order", x.order(set), y.order(set));
    }
    check.due("closed sets", x.closed(0, 2), y.closed(0, 2));
    comparePictures(x, y);
  }

  private static void comparePictures(ShareTables x, Model y) {
    check.due("points", x.count(0), y.count(0));
    for (int a = 0; a < y.count(0); a++) {
      for (int b = 0; b < y.count(0); b++) {
        check.due("at", x.at(a, b), y.at(a, b));
      }
    }
  }

  private static void sieve() {
    for (int n = 2; n <= 200; n++) {
      for (int k = 1; k <= n - 2; k++) {
        for (int l = 0; l < k; l++) {
          ShareTables x = new ShareTables();
          int near = k * (k - l - 1) / (n - k - 1);
          for (int m = n <= 40 ? 0 : near; m <= k && (n <= 40 || m <= near + 1); m++) {
            check.due("sieve(" + n + ", " + k + ", " + l + ", " + m + ")", x.sieve(n, k, l, m), Model.sieve(n, k, l, m));
          }
        }
      }
    }
  }

  private static void many() {
    ShareTables x = new ShareTables();
    for (int n = -1; n <= 43; n++) {
      check.due("many(" + n + ")", x.many(n), Model.many(n));
    }
  }

  private static void mixedRuns() {
    for (int run = 0; run < 400; run++) {
      new Mixed(run).go();
    }
  }

  /** A run of calls, drawn by a fixed rule from the run's number. */
  private static final class Mixed {
    // With those that look at the end of it they stay below the 512 that an object is used for.
    private static final int CALLS = 440;

    private final ShareTables x = new ShareTables();
    private final Model y = new Model();
    private final int run;
    private long seed;

    Mixed(int run) {
      this.run = run;
      this.seed = run * 7919L + 17;
    }

    private int below(int bound) {
      seed = seed * 6364136223846793005L + 1442695040888963407L;
      return (int) ((seed >>> 33) % bound);
    }

    private int about(int least, int most) {
      int odd = below(60);
      if (odd == 0) {
        return new int[] {Integer.MIN_VALUE, Integer.MAX_VALUE, -1, most + 1}[below(4)];
      }
      return odd < 3 ? least - 1 + below(most - least + 3) : least + below(most - least + 1);
    }

    void go() {
      for (int call = 0; call < CALLS; call++) {
        String told = "run " + run + ", call " + call + ": ";
        ask(told, below(30));
      }
      check.due("run " + run + ": fails()", x.fails(), y.fails());
      comparePictures(x, y);
    }

    private void ask(String told, int which) {
      int n = y.count(0);
      int rank = y.count(1);
      if (which < 6) {
        askPoints(told, which, n);
      } else if (which < 18) {
        askEven(told, which, rank);
      } else if (which < 26) {
        askOthers(told, which, rank);
      } else {
        askRest(told, which);
      }
    }

    private void askPoints(String told, int which, int n) {
      if (which == 0 && below(4) == 0) {
        int count = about(1, 8);
        check.due(told + "points(" + count + ")", x.points(count), y.points(count));
      } else if (which < 2) {
        int a = about(0, n - 1);
        int b = about(0, n - 1);
        int c = about(0, 4);
        check.due(told + "colour", x.colour(a, b, c), y.colour(a, b, c));
      } else if (which == 2) {
        int a = about(0, n - 1);
        int b = about(0, n - 1);
        check.due(told + "at", x.at(a, b), y.at(a, b));
      } else if (which < 5) {
        List<Integer> even = evenRings.get(n);
        int digits = below(6) == 0 ? about(0, (int) Math.pow(5, n - 1) - 1) : even.get(below(even.size()));
        check.due(told + "ring(" + digits + ")", x.ring(digits), y.ring(digits));
      } else {
        check.due(told + "fails", x.fails(), y.fails());
      }
    }

    private void askEven(String told, int which, int rank) {
      int i = about(0, rank - 1);
      int set = about(0, (1 << rank) - 1);
      if (which < 9) {
        int j = about(0, rank - 1);
        int k = about(0, rank - 1);
        check.due(told + "number", x.number(i, j, k), y.number(i, j, k));
      } else if (which < 11) {
        int what = about(0, 1);
        check.due(told + "of", x.of(i, what), y.of(i, what));
      } else if (which == 11) {
        check.due(told + "turns", x.turns(), y.turns());
      } else if (which < 14) {
        int what = about(0, 2);
        check.due(told + "closed", x.closed(set, what), y.closed(set, what));
      } else if (which < 16) {
        check.due(told + "order", x.order(set), y.order(set));
      } else {
        int kind = about(0, 2);
        check.due(told + "worth", x.worth(kind, i), y.worth(kind, i));
      }
    }

    private void askOthers(String told, int which, int rank) {
      int i = about(0, rank - 1);
      if (which < 20) {
        int map = about(0, 624);
        check.due(told + "fuse(" + map + ")", x.fuse(map), y.fuse(map));
      } else if (which == 20) {
        int set = below(3) == 0 ? about(0, (1 << rank) - 1) : 0;
        check.due(told + "quotient(" + set + ")", x.quotient(set), y.quotient(set));
      } else if (which < 23) {
        int v = below(3) == 0 ? 0 : about(0, 9);
        int c = about(0, 4);
        check.due(told + "weight", x.weight(c, v), y.weight(c, v));
      } else {
        int t = about(0, 6);
        int part = about(0, 1);
        check.due(told + "chance(" + i + ", " + t + ", " + part + ")", x.chance(i, t, part), y.chance(i, t, part));
      }
    }

    private void askRest(String told, int which) {
      if (which == 26) {
        int n = about(2, 200);
        int k = about(1, Math.max(2, Math.min(n, 200) / 2));
        int l = about(0, Math.max(1, Math.min(k, 200) - 1));
        int m = about(0, Math.max(1, Math.min(k, 200)));
        check.due(told + "sieve(" + n + ", " + k + ", " + l + ", " + m + ")", x.sieve(n, k, l, m), Model.sieve(n, k, l, m));
      } else if (which < 29) {
        int what = about(0, 3);
        check.due(told + "count", x.count(what), y.count(what));
      } else {
        check.due(told + "trace", x.trace(), y.trace());
      }
    }
  }
}
