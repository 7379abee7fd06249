import java.io.IOException;
import java.lang.reflect.Constructor;
import java.lang.reflect.Field;
import java.lang.reflect.Member;
import java.lang.reflect.Method;
import java.lang.reflect.Modifier;
import java.nio.file.Files;
import java.nio.file.Path;
import java.util.ArrayList;
import java.util.Arrays;
import java.util.List;
import java.util.TreeSet;
import java.util.regex.Matcher;
import java.util.regex.Pattern;

/** Holds the class against "The public face" of the document: all that stands there, and no more. */
public final class FaceTest {
  private static final Check check = new Check("FaceTest");
  private static final Pattern CONSTANT = Pattern.compile("(\\w+) = (-?\\d+)");
  private static final Pattern METHOD = Pattern.compile("public (int|long) (\\w+)\\((.*)\\);");
  private static final Pattern HEADING = Pattern.compile("Ahead of the calls (.*?) the interface says: (---- .*?)\\.");
  private static final int ONLY_PUBLIC = Modifier.PUBLIC;
  private static final int CONSTANTLY = Modifier.PUBLIC | Modifier.STATIC | Modifier.FINAL;

  private static final TreeSet<String> told = new TreeSet<>();
  private static String source;

  public static void main(String[] args) throws IOException, ReflectiveOperationException {
    source = Files.readString(Path.of("src/main/java/ShareTables.java"));
    String document = Files.readString(Path.of("../shared/DOC.md"));
    for (String line : face(document).split("\n")) {
      holdLine(line.trim());
    }
    check.due("constants, constructor and methods told", told.size(), 4 + 1 + 19);
    nothingElseIsOpen();
    headingsStandAheadOfTheirCalls(document);
    check.end();
  }

  private static String face(String document) {
    int begin = document.indexOf("```java", document.indexOf("## The public face")) + "```java".length();
    return document.substring(begin, document.indexOf("```", begin));
  }

  private static void holdLine(String line) throws ReflectiveOperationException {
    Matcher method = METHOD.matcher(line);
    if (line.startsWith("public final class ")) {
      check.due("the class", Modifier.toString(ShareTables.class.getModifiers()) + " class ShareTables {", line);
      check.due("its superclass", ShareTables.class.getSuperclass().getName(), "java.lang.Object");
      check.due("interfaces", ShareTables.class.getInterfaces().length, 0);
    } else if (line.startsWith("public static final int ")) {
      holdConstants(line);
    } else if (line.equals("public ShareTables();")) {
      Constructor<ShareTables> constructor = ShareTables.class.getDeclaredConstructor();
      check.due("the constructor's modifiers", constructor.getModifiers(), ONLY_PUBLIC);
      told.add(constructor.toString());
    } else if (method.matches()) {
      holdMethod(method.group(1), method.group(2), method.group(3));
    } else {
      check.holds("the face says: " + line, line.isEmpty() || line.equals("}"));
    }
  }

  private static void holdConstants(String line) throws ReflectiveOperationException {
    Matcher constant = CONSTANT.matcher(line);
    while (constant.find()) {
      Field field = ShareTables.class.getDeclaredField(constant.group(1));
      check.due(constant.group(1) + "'s modifiers", field.getModifiers(), CONSTANTLY);
      check.due(constant.group(1) + "'s type", field.getType().getName(), "int");
      check.due(constant.group(1), field.getInt(null), Integer.parseInt(constant.group(2)));
      told.add(field.toString());
    }
  }

  private static void holdMethod(String type, String name, String parameters) throws ReflectiveOperationException {
    int count = parameters.isEmpty() ? 0 : parameters.split(", ").length;
    Class<?>[] types = new Class<?>[count];
    Arrays.fill(types, int.class);
    Method method = ShareTables.class.getDeclaredMethod(name, types);
    check.due(name + "'s modifiers", method.getModifiers(), ONLY_PUBLIC);
    check.due(name + "'s type", method.getReturnType().getName(), type);
    String head = "    public " + type + " " + name + "(" + parameters + ") {\n";
    check.holds("the program does not say: " + head, source.contains(head));
    told.add(method.toString());
  }

  private static void nothingElseIsOpen() {
    List<Member> members = new ArrayList<>();
    members.addAll(List.of(ShareTables.class.getDeclaredFields()));
    members.addAll(List.of(ShareTables.class.getDeclaredConstructors()));
    members.addAll(List.of(ShareTables.class.getDeclaredMethods()));
    for (Member member : members) {
      boolean open = !Modifier.isPrivate(member.getModifiers()) && !member.isSynthetic();
      check.holds("the face does not say: " + member, !open || told.contains(member.toString()));
    }
    for (Class<?> inside : ShareTables.class.getDeclaredClasses()) {
      check.holds(inside + " is not static", Modifier.isStatic(inside.getModifiers()));
      check.holds(inside + " is open", (inside.getModifiers() & (Modifier.PUBLIC | Modifier.PROTECTED)) == 0);
    }
  }

  private static void headingsStandAheadOfTheirCalls(String document) {
    int behind = source.indexOf("public ShareTables()");
    int headings = 0;
    Matcher heading = HEADING.matcher(document);
    while (heading.find()) {
      headings++;
      int at = source.indexOf("// " + heading.group(2) + "\n");
      check.holds(heading.group(2) + " does not stand behind what was told before", at > behind);
      behind = at;
      for (String call : heading.group(1).replace("`", "").split(", ")) {
        Matcher made = Pattern.compile("public (int|long) " + call + "\\(").matcher(source);
        boolean found = made.find();
        check.holds(call + " does not stand behind " + heading.group(2), found && made.start() > behind);
        behind = found ? made.start() : behind;
      }
    }
    check.due("headings", headings, 4);
  }
}
