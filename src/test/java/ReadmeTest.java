import java.io.IOException;
import java.lang.reflect.Field;
import java.lang.reflect.Method;
import java.lang.reflect.Modifier;
import java.nio.file.Files;
import java.nio.file.Path;
import java.util.ArrayList;
import java.util.Arrays;
import java.util.List;
import java.util.TreeSet;
import java.util.regex.Matcher;
import java.util.regex.Pattern;
import java.util.stream.Stream;

/** Holds README.md to what it says: each call shown is made and answers so; nothing is left out. */
public final class ReadmeTest {
  private static final Check check = new Check("ReadmeTest");
  private static final Pattern BLOCK = Pattern.compile("```(\\w*)\n(.*?)```", Pattern.DOTALL);
  private static final Pattern MADE = Pattern.compile("ShareTables x = new ShareTables\\(\\);( +//.*)?");
  private static final Pattern CALL = Pattern.compile("x\\.(\\w+)\\(([-\\d, ]*)\\); +// (-?\\d+)(: .+)?");
  private static final Pattern ROW = Pattern.compile("^\\| `(\\w+)\\(([\\w, ]*)\\)`(?: \\*)? \\|", Pattern.MULTILINE);

  private static final TreeSet<String> shown = new TreeSet<>();

  public static void main(String[] args) throws IOException, ReflectiveOperationException {
    String readme = Files.readString(Path.of("README.md"));
    callsAnswerAsShown(readme);
    everyCallIsShown();
    everyCallHasARow(readme);
    everyConstantHasARow(readme);
    everyTestIsNamed(readme);
    commandsNameWhatIsThere(readme);
    check.end();
  }

  private static List<String> blocks(String readme, String kind) {
    List<String> found = new ArrayList<>();
    Matcher block = BLOCK.matcher(readme);
    while (block.find()) {
      if (block.group(1).equals(kind)) {
        found.add(block.group(2));
      }
    }
    check.holds("README.md has no block of " + kind, !found.isEmpty());
    return found;
  }

  private static void callsAnswerAsShown(String readme) throws ReflectiveOperationException {
    for (String block : blocks(readme, "java")) {
      ShareTables x = null;
      for (String line : block.split("\n")) {
        Matcher call = CALL.matcher(line);
        if (MADE.matcher(line).matches()) {
          x = new ShareTables();
        } else if (x != null && call.matches()) {
          shown.add(call.group(1));
          check.due(line, answer(x, call.group(1), numbers(call.group(2))), Long.parseLong(call.group(3)));
        } else {
          check.holds("README.md shows what is no call: " + line, line.isBlank());
        }
      }
    }
  }

  private static Object[] numbers(String told) {
    if (told.isEmpty()) {
      return new Object[0];
    }
    String[] parts = told.split(", ");
    Object[] numbers = new Object[parts.length];
    for (int i = 0; i < parts.length; i++) {
      numbers[i] = Integer.valueOf(parts[i]);
    }
    return numbers;
  }

  private static long answer(ShareTables x, String name, Object[] numbers) throws ReflectiveOperationException {
    Class<?>[] types = new Class<?>[numbers.length];
    Arrays.fill(types, int.class);
    return ((Number) ShareTables.class.getMethod(name, types).invoke(x, numbers)).longValue();
  }

  private static List<Method> publicMethods() {
    return Stream.of(ShareTables.class.getDeclaredMethods()).filter(m -> Modifier.isPublic(m.getModifiers())).toList();
  }

  private static void everyCallIsShown() {
    for (Method method : publicMethods()) {
      check.holds("README.md does not show " + method.getName(), shown.contains(method.getName()));
    }
  }

  private static void everyCallHasARow(String readme) {
    List<String> rows = new ArrayList<>();
    Matcher row = ROW.matcher(readme);
    while (row.find()) {
      rows.add(row.group(1) + " " + (row.group(2).isEmpty() ? 0 : row.group(2).split(", ").length));
    }
    check.due("rows of calls", rows.size(), publicMethods().size());
    for (Method method : publicMethods()) {
      check.holds("README.md has no row of " + method, rows.contains(method.getName() + " " + method.getParameterCount()));
    }
  }

  private static void everyConstantHasARow(String readme) throws ReflectiveOperationException {
    for (Field field : ShareTables.class.getFields()) {
      String row = "| `" + field.getName() + "` | " + field.getInt(null) + " | ";
      check.holds("README.md has no row: " + row, readme.contains("\n" + row));
    }
  }

  private static void everyTestIsNamed(String readme) throws IOException {
    TreeSet<String> there = new TreeSet<>();
    try (Stream<Path> files = Files.list(Path.of("src/test/java"))) {
      files.forEach(file -> there.add(file.getFileName().toString().replace(".java", "")));
    }
    TreeSet<String> named = new TreeSet<>();
    Matcher name = Pattern.compile("`(\\w+)`").matcher(readme);
    while (name.find()) {
      if (name.group(1).endsWith("Test")) {
        named.add(name.group(1));
      }
      there.remove(name.group(1));
    }
    check.holds("README.md does not name " + there, there.isEmpty());
    for (String test : named) {
      check.holds("README.md names " + test + ", that is not there", Files.exists(Path.of("src/test/java/" + test + ".java")));
    }
  }

  private static void commandsNameWhatIsThere(String readme) {
    for (String block : blocks(readme, "sh")) {
      for (String word : block.split("\\s+")) {
        boolean source = word.endsWith(".java") || word.endsWith("/run");
        check.holds("there is no " + word, !source || word.contains("*") || Files.exists(Path.of(word)));
        check.holds("there is no " + word, !word.endsWith("Test") || Files.exists(Path.of("src/test/java/" + word + ".java")));
      }
    }
  }
}
