import java.math.BigInteger;
import java.util.ArrayList;
import java.util.List;
import java.util.TreeSet;

/**
 * The document's words once more, as slowly and plainly as they stand and by other ways than the
 * program's: what the program answers is held against it.
 */
final class Model {
  private int n = 1;
  private int[][] colour = {{0}};
  private final int[] weight = {1, 1, 1, 1, 1};
  private long trace = 0;

  // ---- points, colours

  int points(int count) {
    if (count < 1 || count > 8) {
      return -1;
    }
    int before = n;
    n = count;
    colour = new int[n][n];
    for (int a = 0; a < n; a++) {
      for (int b = 0; b < n; b++) {
        colour[a][b] = a == b ? 0 : 1;
      }
    }
    return before;
  }

  int colour(int a, int b, int c) {
    if (a < 0 || b < 0 || c < 0 || a >= n || b >= n || c > 4) {
      return -1;
    }
    int before = colour[a][b];
    colour[a][b] = c;
    return before;
  }

  int at(int a, int b) {
    return a < 0 || b < 0 || a >= n || b >= n ? -1 : colour[a][b];
  }

  int ring(int digits) {
    String told = digits < 0 ? "" : Integer.toString(digits, 5);
    if (digits < 0 || (digits > 0 && told.length() > n - 1)) {
      return -1;
    }
    for (int a = 0; a < n; a++) {
      for (int b = 0; b < n; b++) {
        int place = Math.floorMod(b - a, n);
        colour[a][b] = place == 0 || place > told.length() ? 0 : told.charAt(told.length() - place) - '0';
      }
    }
    return fails() == 0 ? 1 : 0;
  }

  int rank() {
    int greatest = 0;
    for (int[] row : colour) {
      for (int c : row) {
        greatest = Math.max(greatest, c);
      }
    }
    return greatest + 1;
  }

  private int[] first(int c) {
    for (int a = 0; a < n; a++) {
      for (int b = 0; b < n; b++) {
        if (colour[a][b] == c) {
          return new int[] {a, b};
        }
      }
    }
    return null;
  }

  private int between(int a, int b, int i, int j) {
    int points = 0;
    for (int e = 0; e < n; e++) {
      points += colour[a][e] == i && colour[e][b] == j ? 1 : 0;
    }
    return points;
  }

  int fails() {
    for (int kind = 1; kind <= 4; kind++) {
      for (int a = 0; a < n; a++) {
        for (int b = 0; b < n; b++) {
          if (failsBy(kind, a, b)) {
            return kind == 2 ? 200 : 100 * kind + 10 * a + b;
          }
        }
      }
    }
    return 0;
  }

  private boolean failsBy(int kind, int a, int b) {
    int[] cd = first(colour[a][b]);
    boolean found = false;
    switch (kind) {
      case 1:
        return colour[a][b] == 0 ? a != b : a == b;
      case 2:
        for (int c = 0; c < rank(); c++) {
          found |= first(c) == null;
        }
        return found;
      case 3:
        return colour[b][a] != colour[cd[1]][cd[0]];
      default:
        for (int i = 0; i < 5; i++) {
          for (int j = 0; j < 5; j++) {
            found |= between(a, b, i, j) != between(cd[0], cd[1], i, j);
          }
        }
        return found;
    }
  }

  // ---- an even one

  private boolean even() {
    return fails() == 0;
  }

  private boolean colourBelowRank(int i) {
    return i >= 0 && i < rank();
  }

  private int n(int i, int j, int k) {
    int[] pair = first(k);
    return between(pair[0], pair[1], i, j);
  }

  int number(int i, int j, int k) {
    if (!colourBelowRank(i) || !colourBelowRank(j) || !colourBelowRank(k)) {
      return -1;
    }
    return even() ? n(i, j, k) : -2;
  }

  private int reverse(int i) {
    int[] pair = first(i);
    return colour[pair[1]][pair[0]];
  }

  // Each pair (0, 0) has as many points between its two as the colour has pairs out of 0.
  private int degree(int i) {
    return n(i, reverse(i), 0);
  }

  int of(int i, int what) {
    if (!colourBelowRank(i) || (what != 0 && what != 1)) {
      return -1;
    }
    if (!even()) {
      return -2;
    }
    return what == 0 ? reverse(i) : degree(i);
  }

  int turns() {
    if (!even()) {
      return -2;
    }
    for (int i = 0; i < rank(); i++) {
      for (int j = 0; j < rank(); j++) {
        for (int k = 0; k < rank(); k++) {
          if (n(i, j, k) != n(j, i, k)) {
            return 0;
          }
        }
      }
    }
    return 1;
  }

  private boolean isClosed(int set) {
    if (set % 2 == 0) {
      return false;
    }
    for (int i = 0; i < rank(); i++) {
      for (int j = 0; j < rank(); j++) {
        for (int k = 0; k < rank(); k++) {
          boolean leaves = (set & 1 << i) != 0 && (set & 1 << j) != 0 && (set & 1 << k) == 0;
          if (leaves && n(i, j, k) > 0) {
            return false;
          }
        }
      }
    }
    return true;
  }

  private List<Integer> closedSets() {
    List<Integer> sets = new ArrayList<>();
    for (int set = 0; set < 1 << rank(); set++) {
      if (isClosed(set)) {
        sets.add(set);
      }
    }
    return sets;
  }

  // What all closed sets around it have in common is the least of them.
  private int hull(int set) {
    int common = (1 << rank()) - 1;
    for (int one : closedSets()) {
      if ((one & set) == set) {
        common &= one;
      }
    }
    return common;
  }

  private int orderOfClosed(int set) {
    int together = 0;
    for (int i = 0; i < rank(); i++) {
      together += (set & 1 << i) != 0 ? degree(i) : 0;
    }
    return together;
  }

  private boolean wrongSet(int set) {
    return set < 0 || set > (1 << rank()) - 1;
  }

  int closed(int set, int what) {
    if (what < 0 || what > 2 || (what < 2 && wrongSet(set))) {
      return -1;
    }
    if (!even()) {
      return -2;
    }
    return what == 0 ? (isClosed(set) ? 1 : 0) : what == 1 ? hull(set) : closedSets().size();
  }

  int order(int set) {
    return wrongSet(set) ? -1 : !even() ? -2 : orderOfClosed(hull(set));
  }

  int worth(int kind, int i) {
    if (kind < 0 || kind > 2 || !colourBelowRank(i)) {
      return -1;
    }
    if (!even()) {
      return -2;
    }
    int[] come = {1, 11, 111};
    trace += come[kind];
    int degrees = degree(i);
    int hulls = degrees * orderOfClosed(hull(1 << i));
    return kind == 0 ? degrees : kind == 1 ? hulls : hulls + n(i, i, i);
  }

  // ---- others from it

  int fuse(int map) {
    if (map < 0 || map > 624) {
      return -1;
    }
    int[] to = {0, map % 5, map / 5 % 5, map / 25 % 5, map / 125};
    for (int c = 1; c < rank(); c++) {
      if (to[c] == 0) {
        return -1;
      }
    }
    if (!even()) {
      return -2;
    }
    int[][] before = colour;
    colour = new int[n][n];
    for (int a = 0; a < n; a++) {
      for (int b = 0; b < n; b++) {
        colour[a][b] = to[before[a][b]];
      }
    }
    if (even()) {
      return 1;
    }
    colour = before;
    return 0;
  }

  int quotient(int set) {
    if (wrongSet(set)) {
      return -1;
    }
    if (!even()) {
      return -2;
    }
    int closed = hull(set);
    List<Integer> leastPoints = new ArrayList<>();
    int[] block = new int[n];
    for (int a = 0; a < n; a++) {
      int least = a;
      for (int b = n - 1; b >= 0; b--) {
        if ((closed >> colour[a][b] & 1) == 1 && b < least) {
          least = b;
        }
      }
      if (!leastPoints.contains(least)) {
        leastPoints.add(least);
      }
      block[a] = leastPoints.indexOf(least);
    }
    boolean[][] one = onesBetween(block);
    TreeSet<Integer> leastColours = new TreeSet<>();
    for (int c = 0; c < rank(); c++) {
      leastColours.add(leastOne(one, c));
    }
    int[][] next = new int[leastPoints.size()][leastPoints.size()];
    for (int a = 0; a < n; a++) {
      for (int b = 0; b < n; b++) {
        next[block[a]][block[b]] = leastColours.headSet(leastOne(one, colour[a][b])).size();
      }
    }
    n = leastPoints.size();
    colour = next;
    return n;
  }

  private boolean[][] onesBetween(int[] block) {
    boolean[][] one = new boolean[5][5];
    for (int pair = 0; pair < n * n; pair++) {
      for (int other = 0; other < n * n; other++) {
        if (block[pair / n] == block[other / n] && block[pair % n] == block[other % n]) {
          one[colour[pair / n][pair % n]][colour[other / n][other % n]] = true;
        }
      }
    }
    for (int via = 0; via < 5; via++) {
      for (int c = 0; c < 5; c++) {
        for (int d = 0; d < 5; d++) {
          one[c][d] |= one[c][via] && one[via][d];
        }
      }
    }
    return one;
  }

  private static int leastOne(boolean[][] one, int c) {
    for (int d = 0; d < 5; d++) {
      if (one[c][d]) {
        return d;
      }
    }
    return c;
  }

  int weight(int i, int v) {
    if (i < 0 || i > 4 || v < 0 || v > 9) {
      return -1;
    }
    int before = weight[i];
    weight[i] = v;
    return before;
  }

  private int weights() {
    int together = 0;
    for (int c = 0; c < rank(); c++) {
      together += weight[c];
    }
    return together;
  }

  // The colour behind a step is got by the numbers alone: from colour k of the pair (0, x), a
  // step of colour j leads to colour i as often as N(k, j, i) degree(i) says, of degree(k)
  // degree(j) in all.
  long chance(int i, int t, int part) {
    if (!colourBelowRank(i) || t < 0 || t > 6 || part < 0 || part > 1) {
      return -1;
    }
    if (!even() || weights() == 0) {
      return -2;
    }
    Fraction[] behind = new Fraction[rank()];
    for (int k = 0; k < behind.length; k++) {
      behind[k] = Fraction.of(k == 0 ? 1 : 0, 1);
    }
    for (int step = 0; step < t; step++) {
      behind = step(behind);
    }
    return part == 0 ? behind[i].upper.longValueExact() : behind[i].lower.longValueExact();
  }

  private Fraction[] step(Fraction[] from) {
    Fraction[] to = new Fraction[from.length];
    for (int i = 0; i < to.length; i++) {
      to[i] = Fraction.of(0, 1);
      for (int k = 0; k < to.length; k++) {
        for (int j = 0; j < to.length; j++) {
          Fraction drawn = Fraction.of(weight[j], weights());
          Fraction leads = Fraction.of(n(k, j, i) * degree(i), degree(k) * degree(j));
          to[i] = to[i].plus(from[k].times(drawn).times(leads));
        }
      }
    }
    return to;
  }

  // ---- the sieve

  // r and s are found as the whole numbers with sum l - m and product m - k, f from the degrees:
  // k + f r + g s is 0, f + g is n - 1.
  static int sieve(int n, int k, int l, int m) {
    if (n < 2 || n > 200 || k < 1 || k > n - 2 || l < 0 || l >= k || m < 0 || m > k) {
      return -1;
    }
    if (k * (k - l - 1) != (n - k - 1) * m) {
      return 1;
    }
    if (2 * k + (n - 1) * (l - m) == 0) {
      return n % 2 == 0 ? 2 : 0;
    }
    for (int s = -200; s <= 200; s++) {
      int r = l - m - s;
      if (r > s && r * s == m - k) {
        return sieveByRoots(n, k, m, r, s);
      }
    }
    return 2;
  }

  private static int sieveByRoots(int n, int k, int m, int r, int s) {
    int above = -(k + (n - 1) * s);
    if (above % (r - s) != 0) {
      return 2;
    }
    long f = above / (r - s);
    long g = n - 1 - f;
    long common = 2L * r * s;
    boolean first = (r + 1) * (k + r + common) > (long) (k + r) * (s + 1) * (s + 1);
    boolean second = (s + 1) * (k + s + common) > (long) (k + s) * (r + 1) * (r + 1);
    if (first || second) {
      return 3;
    }
    return m != 0 && m != k && (n > f * (f + 3) / 2 || n > g * (g + 3) / 2) ? 4 : 0;
  }

  static int many(int n) {
    if (n < 2 || n > 40) {
      return -1;
    }
    int passing = 0;
    for (int k = 1; k <= 40; k++) {
      for (int l = 0; l <= 40; l++) {
        for (int m = 0; m <= 40; m++) {
          passing += k <= (n - 1) / 2.0 && sieve(n, k, l, m) == 0 ? 1 : 0;
        }
      }
    }
    return passing;
  }

  int count(int what) {
    return what == 0 ? n : what == 1 ? rank() : what == 2 ? (even() ? 1 : 0) : what == 3 ? weights() : -1;
  }

  long trace() {
    return trace;
  }

  /** A whole number by another, in least form. */
  private static final class Fraction {
    final BigInteger upper;
    final BigInteger lower;

    private Fraction(BigInteger upper, BigInteger lower) {
      BigInteger common = upper.gcd(lower);
      this.upper = upper.divide(common);
      this.lower = lower.divide(common);
    }

    static Fraction of(int upper, int lower) {
      return new Fraction(BigInteger.valueOf(upper), BigInteger.valueOf(lower));
    }

    Fraction plus(Fraction other) {
      return new Fraction(upper.multiply(other.lower).add(other.upper.multiply(lower)), lower.multiply(other.lower));
    }

    Fraction times(Fraction other) {
      return new Fraction(upper.multiply(other.upper), lower.multiply(other.lower));
    }
  }
}
