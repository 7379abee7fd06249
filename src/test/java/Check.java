import java.util.function.Supplier;
import java.util.function.ToLongFunction;

/** Counts what a test looks at, prints every answer that is not due, and ends the run by that. */
final class Check {
  private final String title;
  private int passed = 0;
  private int failed = 0;

  Check(String title) {
    this.title = title;
  }

  void due(String call, long got, long want) {
    holds(call + " answered " + got + ", due is " + want, got == want);
  }

  void due(String call, String got, String want) {
    holds(call + " is " + got + ", due is " + want, got.equals(want));
  }

  void holds(String otherwise, boolean so) {
    if (so) {
      passed++;
    } else {
      failed++;
      if (failed <= 40) {
        System.out.println(title + ": " + otherwise);
      }
    }
  }

  /**
   * A call that changes nothing: it answers as told, and behind it the object is like another one
   * on which it was never made. Each time on an object of its own, as 512 calls are soon used up.
   */
  void still(Supplier<ShareTables> begin, String call, ToLongFunction<ShareTables> made, long want) {
    ShareTables x = begin.get();
    due(call, made.applyAsLong(x), want);
    due("the state behind " + call, State.of(x), State.of(begin.get()));
  }

  void end() {
    System.out.println(title + ": " + passed + " passed, " + failed + " failed");
    if (failed != 0) {
      System.exit(1);
    }
  }
}
