/** All of an object that can be seen, as a text. */
final class State {
  private State() {
  }

  static String of(ShareTables x) {
    StringBuilder text = new StringBuilder();
    int n = x.count(0);
    text.append(n).append(" points");
    for (int a = 0; a < n; a++) {
      text.append(' ');
      for (int b = 0; b < n; b++) {
        text.append(x.at(a, b));
      }
    }
    text.append(" rank ").append(x.count(1));
    text.append(" even ").append(x.count(2));
    text.append(" fails ").append(x.fails());
    text.append(" weights");
    for (int i = 0; i < 5; i++) {
      int v = x.weight(i, 0);
      x.weight(i, v);
      text.append(' ').append(v);
    }
    text.append(" trace ").append(x.trace());
    return text.toString();
  }
}
