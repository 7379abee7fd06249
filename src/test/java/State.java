/** All of an object that can be seen, as a text; it takes some 290 calls at most. */
final class State {
  private State() {
  }

  static String of(ShareTables x) {
    String seen = plain(x);
    return x.count(2) == 1 ? seen + numbers(x) : seen;
  }

  static String plain(ShareTables x) {
    StringBuilder text = new StringBuilder();
    int n = x.count(0);
    text.append(n).append(" points");
    for (int a = 0; a < n; a++) {
      text.append(' ');
      for (int b = 0; b < n; b++) {
        text.append(x.at(a, b));
      }
    }
    text.append(" rank ").append(x.count(1));
    text.append(" even ").append(x.count(2));
    text.append(" fails ").append(x.fails());
    text.append(" weights");
    for (int i = 0; i < 5; i++) {
      int v = x.weight(i, 0);
      x.weight(i, v);
      text.append(' ').append(v);
    }
    text.append(" trace ").append(x.trace());
    return text.toString();
  }

  // Kept apart from the colours they may be wrong while those are right.
  private static String numbers(ShareTables x) {
    StringBuilder text = new StringBuilder();
    int rank = x.count(1);
    for (int i = 0; i < rank; i++) {
      text.append(" reverse ").append(x.of(i, 0)).append(" degree ").append(x.of(i, 1)).append(" numbers ");
      for (int jk = 0; jk < rank * rank; jk++) {
        text.append(x.number(i, jk / rank, jk % rank));
      }
    }
    text.append(" closed sets ").append(x.closed(0, 2));
    for (int set = 0; set < 1 << rank; set++) {
      text.append(' ').append(x.closed(set, 1));
    }
    return text.toString();
  }
}
