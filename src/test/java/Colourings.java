/** Colourings that the tests begin from. */
final class Colourings {
  private Colourings() {
  }

  /** Ring digits from the colours of the differences 1, 2, .. */
  static int digits(int... colours) {
    int number = 0;
    for (int d = colours.length - 1; d >= 0; d--) {
      number = 5 * number + colours[d];
    }
    return number;
  }

  static ShareTables ring(int... colours) {
    ShareTables x = new ShareTables();
    x.points(colours.length + 1);
    x.ring(digits(colours));
    return x;
  }

  /** Rows of digits, one row a point. */
  static ShareTables rows(String... rows) {
    ShareTables x = new ShareTables();
    x.points(rows.length);
    for (int a = 0; a < rows.length; a++) {
      for (int b = 0; b < rows.length; b++) {
        x.colour(a, b, rows[a].charAt(b) - '0');
      }
    }
    return x;
  }

  static String rowsOf(ShareTables x) {
    StringBuilder text = new StringBuilder();
    for (int a = 0; a < x.count(0); a++) {
      if (a > 0) {
        text.append(' ');
      }
      for (int b = 0; b < x.count(0); b++) {
        text.append(x.at(a, b));
      }
    }
    return text.toString();
  }

  /** The corners of a cube, coloured by how many edges lie between them: 1, 3, 3, 1 of each. */
  static ShareTables cube() {
    ShareTables x = new ShareTables();
    x.points(8);
    for (int a = 0; a < 8; a++) {
      for (int b = 0; b < 8; b++) {
        x.colour(a, b, Integer.bitCount(a ^ b));
      }
    }
    return x;
  }

  /** Has each colour below rank and each zero where it belongs, but counts unevenly. */
  static ShareTables uneven() {
    return rows("0122", "1012", "2101", "2210");
  }
}
