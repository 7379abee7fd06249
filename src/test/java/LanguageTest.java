import java.io.IOException;
import java.lang.reflect.Field;
import java.lang.reflect.Modifier;
import java.nio.file.Files;
import java.nio.file.Path;
import java.util.ArrayList;
import java.util.List;
import java.util.TreeMap;
import java.util.TreeSet;
import java.util.regex.Matcher;
import java.util.regex.Pattern;

/** Holds the program's text against those rules of LANGUAGE.md that a look at the words can judge. */
public final class LanguageTest {
  private static final Check check = new Check("LanguageTest");
  private static final Pattern HEAD =
      Pattern.compile("^ +((?:public |private |static |final )*)([\\w\\[\\]]+ )?(\\w+)\\(([^()]*)\\) \\{$", Pattern.MULTILINE);

  public static void main(String[] args) throws IOException {
    String source = Files.readString(Path.of("src/main/java/ShareTables.java"));
    String code = source.replaceAll("(?s)/\\*.*?\\*/", "").replaceAll("//[^\n]*", "");
    forbiddenWords(code);
    onlyPlainLibrary(code);
    methods(code);
    madeInConstructorsOnly(code);
    classesAndFields();
    new Calls(code).areShallow();
    check.end();
  }

  private static void forbiddenWords(String code) {
    String[] words = {"throw", "throws", "try", "catch", "synchronized", "assert", "package", "import", "protected",
        "volatile", "transient", "native", "instanceof", "Object", "float", "double"};
    for (String word : words) {
      check.holds("the word " + word + " stands in the program", !Pattern.compile("\\b" + word + "\\b").matcher(code).find());
    }
    for (String sign : new String[] {"->", "::", "Exact", "@", "static {", "\t"}) {
      check.holds("the sign " + sign + " stands in the program", !code.contains(sign));
    }
    for (int i = 0; i < code.length(); i++) {
      if (code.charAt(i) > 126) {
        check.holds("a sign beyond 126 at " + i, false);
      }
    }
  }

  private static void onlyPlainLibrary(String code) {
    Matcher used = Pattern.compile("\\b([A-Z][a-z]\\w*)\\.(\\w+)").matcher(code);
    while (used.find()) {
      String owner = used.group(1);
      boolean math = owner.equals("Math") && (used.group(2).equals("min") || used.group(2).equals("max"));
      boolean own = code.contains("class " + owner + " ");
      check.holds("another's " + used.group(), math || own);
    }
  }

  private static void classesAndFields() {
    List<Class<?>> classes = new ArrayList<>();
    classes.add(ShareTables.class);
    for (int at = 0; at < classes.size(); at++) {
      classes.addAll(List.of(classes.get(at).getDeclaredClasses()));
    }
    check.holds("there are " + classes.size() + " classes", classes.size() > 1 && classes.size() <= 12);
    for (Class<?> one : classes) {
      check.holds(one + " is not static", one == ShareTables.class || Modifier.isStatic(one.getModifiers()));
      fields(one);
    }
  }

  private static void fields(Class<?> one) {
    List<String> allowed = List.of("int", "long", "boolean", "char", "java.lang.String", "[I", "[J", "[C", "[B");
    int own = 0;
    for (Field field : one.getDeclaredFields()) {
      boolean shared = Modifier.isStatic(field.getModifiers());
      own += shared ? 0 : 1;
      check.holds(field + " is static, not final", !shared || Modifier.isFinal(field.getModifiers()));
      check.holds(field + " is static of a type not allowed", !shared || allowed.contains(field.getType().getName()));
    }
    check.holds(one + " has " + own + " fields", own <= 20);
  }

  private static void methods(String code) {
    List<String> publicNames = new ArrayList<>();
    List<String> otherNames = new ArrayList<>();
    Matcher head = HEAD.matcher(code);
    int methods = 0;
    while (head.find()) {
      methods++;
      (head.group(1).contains("public ") ? publicNames : otherNames).add(head.group(3));
      check.holds(head.group(3) + " takes too much", head.group(4).split(",").length <= 7);
      check.holds(head.group(3) + " is too long", body(code, head.end()).split("\n").length <= 60);
    }
    check.holds("the methods were not found", methods > 30);
    check.due("public ones, with the constructor", publicNames.size(), 20);
    for (String name : otherNames) {
      check.holds("a method inside has the public name " + name, !publicNames.contains(name));
    }
  }

  /** From behind an opening brace to its closing one. */
  private static String body(String code, int from) {
    int open = 1;
    int end = from;
    while (open > 0 && end < code.length()) {
      open += code.charAt(end) == '{' ? 1 : code.charAt(end) == '}' ? -1 : 0;
      end++;
    }
    return code.substring(from, end);
  }

  // The room of a run is counted: no call may make anything.
  private static void madeInConstructorsOnly(String code) {
    Matcher head = HEAD.matcher(code);
    while (head.find()) {
      boolean constructor = head.group(2) == null;
      check.holds(head.group(3) + " makes an object", constructor || !body(code, head.end()).contains("new "));
    }
  }

  /** Which method calls which, by their names alone: two of one name are taken for one, so nothing is missed. */
  private static final class Calls {
    private final TreeMap<String, TreeSet<String>> called = new TreeMap<>();

    Calls(String code) {
      Matcher head = HEAD.matcher(code);
      while (head.find()) {
        called.computeIfAbsent(head.group(3), name -> new TreeSet<>()).addAll(callsIn(body(code, head.end())));
      }
    }

    private static List<String> callsIn(String body) {
      List<String> names = new ArrayList<>();
      Matcher call = Pattern.compile("\\b(\\w+)\\(").matcher(body);
      while (call.find()) {
        names.add(call.group(1));
      }
      return names;
    }

    void areShallow() {
      int deepest = 0;
      for (String name : called.keySet()) {
        deepest = Math.max(deepest, depth(name, new ArrayList<>()));
      }
      check.holds("calls go " + deepest + " deep", deepest > 3 && deepest <= 8);
    }

    private int depth(String name, List<String> open) {
      if (open.contains(name)) {
        check.holds(name + " calls itself, by " + open, false);
        return 0;
      }
      open.add(name);
      int below = 0;
      for (String next : called.get(name)) {
        below = Math.max(below, called.containsKey(next) ? depth(next, open) : 0);
      }
      open.remove(open.size() - 1);
      return below + 1;
    }
  }
}
