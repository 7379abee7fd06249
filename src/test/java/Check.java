import java.util.function.IntSupplier;

/** Counts what a test looks at, prints every answer that is not due, and ends the run by that. */
final class Check {
  private final String title;
  private int passed = 0;
  private int failed = 0;

  Check(String title) {
    this.title = title;
  }

  void due(String call, long got, long want) {
    holds(call + " answered " + got + ", due is " + want, got == want);
  }

  void due(String call, String got, String want) {
    holds(call + " is " + got + ", due is " + want, got.equals(want));
  }

  void holds(String otherwise, boolean so) {
    if (so) {
      passed++;
    } else {
      failed++;
      if (failed <= 40) {
        System.out.println(title + ": " + otherwise);
      }
    }
  }

  /** A refused call answers as told and changes nothing that can be seen. */
  void refused(ShareTables x, String call, IntSupplier made, long want) {
    String before = State.of(x);
    due(call, made.getAsInt(), want);
    due("the state behind " + call, State.of(x), before);
  }

  void end() {
    System.out.println(title + ": " + passed + " passed, " + failed + " failed");
    if (failed != 0) {
      System.exit(1);
    }
  }
}
