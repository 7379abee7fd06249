import java.io.IOException;
import java.nio.file.Files;
import java.nio.file.Path;
import java.util.ArrayList;
import java.util.List;
import java.util.regex.Matcher;
import java.util.regex.Pattern;

/**
 * Holds the remarks of the edge tests against the document: each test there is called and says
 * which promise it holds and by which sentences; these stand in the document, word for word; and
 * no sentence of the promises and of the terms is left out.
 */
public final class RemarksTest {
  private static final Check check = new Check("RemarksTest");
  private static final String[] EDGES = {"PointsEdgesTest", "EvenEdgesTest", "OthersEdgesTest", "SieveEdgesTest"};
  private static final Pattern REMARK = Pattern.compile("Promise (\\d+): (.*)");
  private static final Pattern QUOTE = Pattern.compile("\"([^\"]+)\"");
  private static final Pattern TEST = Pattern.compile("  private static void (\\w+)\\(\\) \\{");
  private static final int PROMISES = 20;

  private static final List<List<String>> quotes = new ArrayList<>();

  public static void main(String[] args) throws IOException {
    for (int promise = 0; promise <= PROMISES; promise++) {
      quotes.add(new ArrayList<>());
    }
    for (String name : EDGES) {
      readRemarks(name, Files.readString(Path.of("src/test/java/" + name + ".java")));
    }
    String document = Files.readString(Path.of("../shared/DOC.md"));
    quotesStandInTheDocument(evenSpaces(document));
    promisesAreHeld(document);
    termsAreHeld(document);
    check.end();
  }

  private static String evenSpaces(String text) {
    return text.replaceAll("\\s+", " ");
  }

  private static void readRemarks(String name, String source) {
    String[] lines = source.split("\n");
    for (int at = 1; at < lines.length; at++) {
      Matcher test = TEST.matcher(lines[at]);
      if (test.matches()) {
        String called = name + "." + test.group(1);
        Matcher remark = REMARK.matcher(remarkAbove(lines, at));
        check.holds(called + " has no remark", remark.matches());
        check.holds(called + " is not called", source.contains("\n    " + test.group(1) + "();\n"));
        if (remark.matches()) {
          keepQuotes(called, Integer.parseInt(remark.group(1)), remark.group(2));
        }
      }
    }
  }

  /** The lines of the remark above a line, as one. */
  private static String remarkAbove(String[] lines, int at) {
    StringBuilder told = new StringBuilder();
    for (int above = at - 1; above >= 0 && lines[above].startsWith("  // "); above--) {
      told.insert(0, lines[above].substring("  // ".length()) + " ");
    }
    return told.toString().trim();
  }

  private static void keepQuotes(String called, int promise, String told) {
    check.holds(called + " speaks of promise " + promise, promise >= 1 && promise <= PROMISES);
    Matcher quote = QUOTE.matcher(told);
    int found = 0;
    while (quote.find()) {
      found++;
      quotes.get(promise).add(quote.group(1));
    }
    check.holds(called + " quotes nothing", found > 0);
  }

  private static void quotesStandInTheDocument(String document) {
    for (int promise = 1; promise <= PROMISES; promise++) {
      for (String quote : quotes.get(promise)) {
        check.holds("promise " + promise + ": the document does not say: " + quote, document.contains(quote));
      }
    }
  }

  private static void promisesAreHeld(String document) {
    for (int promise = 1; promise <= PROMISES; promise++) {
      String told = between(document, "## Promise " + promise + ":", "## ");
      told = told.substring(told.indexOf("`: ") + 3);
      allIsQuoted("promise " + promise, told, quotes.get(promise));
    }
  }

  // A sentence of the terms is held by a test of any promise that hangs on it.
  private static void termsAreHeld(String document) {
    List<String> all = new ArrayList<>();
    for (List<String> some : quotes) {
      all.addAll(some);
    }
    String terms = between(document, "## Terms", "Ahead of the calls");
    allIsQuoted("the terms", terms.replaceAll("```(text)?|========", ""), all);
  }

  private static String between(String text, String from, String to) {
    int begin = text.indexOf(from);
    check.holds("the document has no " + from, begin >= 0);
    if (begin < 0) {
      return "";
    }
    int end = text.indexOf(to, begin + from.length());
    return text.substring(begin + from.length(), end < 0 ? text.length() : end);
  }

  private static void allIsQuoted(String where, String told, List<String> by) {
    String text = evenSpaces(told);
    boolean[] held = new boolean[text.length()];
    for (String quote : by) {
      for (int at = text.indexOf(quote); at >= 0; at = text.indexOf(quote, at + 1)) {
        for (int i = at; i < at + quote.length(); i++) {
          held[i] = true;
        }
      }
    }
    StringBuilder left = new StringBuilder();
    for (int i = 0; i < text.length(); i++) {
      left.append(held[i] || !Character.isLetterOrDigit(text.charAt(i)) ? ' ' : text.charAt(i));
    }
    check.holds(where + ": no remark quotes: " + left.toString().replaceAll("   +", " .. "), left.toString().isBlank());
  }
}
