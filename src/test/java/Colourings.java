/** Colourings that the tests begin from, each on an object of its own. */
final class Colourings {
  /** Beside those that a call would be refused for anyway, the ends of what an int can be. */
  static final int[] FAR = {Integer.MIN_VALUE, Integer.MIN_VALUE + 1, -1000000, 1000000, Integer.MAX_VALUE - 1, Integer.MAX_VALUE};

  private Colourings() {
  }

  /** Ring digits from the colours of the differences 1, 2, .. */
  static int digits(int... colours) {
    int number = 0;
    for (int d = colours.length - 1; d >= 0; d--) {
      number = 5 * number + colours[d];
    }
    return number;
  }

  static ShareTables ring(int... colours) {
    return turned(new ShareTables(), colours);
  }

  private static ShareTables turned(ShareTables x, int... colours) {
    x.points(colours.length + 1);
    x.ring(digits(colours));
    return x;
  }

  /** Rows of digits, one row a point. */
  static ShareTables rows(String... rows) {
    return painted(new ShareTables(), rows);
  }

  private static ShareTables painted(ShareTables x, String... rows) {
    x.points(rows.length);
    for (int a = 0; a < rows.length; a++) {
      for (int b = 0; b < rows.length; b++) {
        x.colour(a, b, rows[a].charAt(b) - '0');
      }
    }
    return x;
  }

  static String rowsOf(ShareTables x) {
    StringBuilder text = new StringBuilder();
    for (int a = 0; a < x.count(0); a++) {
      if (a > 0) {
        text.append(' ');
      }
      for (int b = 0; b < x.count(0); b++) {
        text.append(x.at(a, b));
      }
    }
    return text.toString();
  }

  /** So many points, with the colours that they have as they are told anew. */
  static ShareTables alike(int n) {
    ShareTables x = new ShareTables();
    x.points(n);
    return x;
  }

  /** The corners of a cube, coloured by how many edges lie between them: 1, 3, 3, 1 of each. */
  static ShareTables cube() {
    String[] rows = new String[8];
    for (int a = 0; a < 8; a++) {
      rows[a] = "";
      for (int b = 0; b < 8; b++) {
        rows[a] += Integer.bitCount(a ^ b);
      }
    }
    return rows(rows);
  }

  /** Weights and a trace unlike those of a new object, so that losing them is seen. */
  static ShareTables marked() {
    ShareTables x = new ShareTables();
    int[] weights = {2, 3, 5, 7, 9};
    for (int i = 0; i < 5; i++) {
      x.weight(i, weights[i]);
    }
    x.worth(2, 0);
    return x;
  }

  /** So many points with one colour beside 0, even. Marked. */
  static ShareTables alikeMarked(int n) {
    ShareTables x = marked();
    x.points(n);
    return x;
  }

  /** An even one of the rank told, 1 .. 5, of as many points: by b less a, each its own colour. Marked. */
  static ShareTables even(int rank) {
    int[] colours = new int[rank - 1];
    for (int d = 1; d < rank; d++) {
      colours[d - 1] = d;
    }
    return turned(marked(), colours);
  }

  /** Eight points, rank 5, even; colour 4 leads to one point, 1, 2, 3 to two. Marked. */
  static ShareTables eight() {
    return turned(marked(), 1, 2, 3, 4, 3, 2, 1);
  }

  /** Three points, rank 3, not even: it fails by 1, 2, 3 or 4, as told. Marked. */
  static ShareTables uneven(int kind) {
    switch (kind) {
      case 1:
        return painted(marked(), "012", "112", "220");
      case 2:
        return painted(marked(), "022", "202", "220");
      case 3:
        return painted(marked(), "011", "101", "210");
      default:
        return painted(marked(), "012", "101", "210");
    }
  }
}
