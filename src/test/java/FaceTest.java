import java.lang.reflect.Constructor;
import java.lang.reflect.Method;
import java.lang.reflect.Modifier;
import java.nio.file.Files;
import java.nio.file.Path;
import java.util.Arrays;
import java.util.List;
import java.util.TreeSet;
import java.util.regex.Matcher;
import java.util.regex.Pattern;
import java.util.stream.Collectors;

/** The public face is that of the document, no more and no less, and the source keeps to the rules that a text can show. */
public final class FaceTest {
  private static final Path DOCUMENT = Path.of("../shared/DOC.md");
  private static final Path SOURCE = Path.of("src/main/java/Shortdecimals.java");

  private static int wrong = 0;

  public static void main(String[] args) throws Exception {
    faceIsThatOfTheDocument();
    nothingElseIsSeen();
    sourceKeepsToTheRules();
    System.out.println(wrong == 0 ? "the face is as due" : wrong + " things of the face are not as due");
    if (wrong != 0) {
      System.exit(1);
    }
  }

  private static void check(boolean isRight, String what) {
    if (!isRight) {
      wrong++;
      System.out.println("not so: " + what);
    }
  }

  private static void faceIsThatOfTheDocument() throws Exception {
    String document = Files.readString(DOCUMENT);
    String face = document.substring(document.indexOf("```java"), document.indexOf("## Description"));
    TreeSet<String> wanted = new TreeSet<>();
    Matcher method = Pattern.compile("public (\\w+) (\\w+)\\(([^)]*)\\)([^;]*);").matcher(face);
    while (method.find()) {
      String types = Arrays.stream(method.group(3).split(",")).map(part -> part.trim().split(" ")[0])
          .collect(Collectors.joining(","));
      String thrown = method.group(4).replace("throws", "").replace(" ", "");
      wanted.add(method.group(1) + " " + method.group(2) + "(" + types + ")" + thrown);
    }
    TreeSet<String> found = new TreeSet<>();
    for (Method each : Shortdecimals.class.getDeclaredMethods()) {
      if (Modifier.isPublic(each.getModifiers())) {
        found.add(each.getReturnType().getSimpleName() + " " + each.getName() + "(" + names(each.getParameterTypes()) + ")"
            + names(each.getExceptionTypes()));
      }
    }
    check(wanted.size() == 56, "the document has 56 methods, read were " + wanted.size());
    check(wanted.equals(found), "the methods are those of the document: " + wanted + " against " + found);
  }

  private static String names(Class<?>[] types) {
    return Arrays.stream(types).map(Class::getSimpleName).collect(Collectors.joining(","));
  }

  private static void nothingElseIsSeen() {
    check(Modifier.isFinal(Shortdecimals.class.getModifiers()), "the class is final");
    Constructor<?>[] made = Shortdecimals.class.getDeclaredConstructors();
    check(made.length == 1 && Modifier.isPublic(made[0].getModifiers()) && made[0].getParameterCount() == 0,
        "there is one constructor, public and without parameters");
    Arrays.stream(Shortdecimals.class.getDeclaredFields())
        .forEach(field -> check(Modifier.isPrivate(field.getModifiers()), field + " is private"));
    TreeSet<String> open = new TreeSet<>();
    for (Method method : Shortdecimals.class.getDeclaredMethods()) {
      check(Modifier.isPublic(method.getModifiers()) || Modifier.isPrivate(method.getModifiers()), method + " is hidden");
      if (Modifier.isPublic(method.getModifiers())) {
        open.add(method.getName());
      }
    }
    for (Class<?> inner : Shortdecimals.class.getDeclaredClasses()) {
      check(Modifier.isStatic(inner.getModifiers()), inner + " is static");
      for (Method method : inner.getDeclaredMethods()) {
        check(!open.contains(method.getName()), method + " has a name of its own");
      }
    }
    check(Shortdecimals.class.getDeclaredClasses().length <= 12, "there are at most twelve classes");
  }

  private static void sourceKeepsToTheRules() throws Exception {
    List<String> lines = Files.readAllLines(SOURCE);
    List<String> refused = List.of("import ", "package ", "catch", "finally", "synchronized", "assert ", "->", "::", "double ",
        "float ", "Math.addExact", "System.out", "Object ", "instanceof", "static {", "String.format", "random", "Thread");
    int start = 0;
    for (int i = 0; i < lines.size(); i++) {
      String code = lines.get(i).trim();
      if (code.startsWith("/**") || code.startsWith("*") || code.startsWith("//")) {
        continue;
      }
      for (String word : refused) {
        check(!code.contains(word), "line " + (i + 1) + " goes without '" + word + "'");
      }
      check(!code.contains("\" +") && !code.contains("+ \""), "line " + (i + 1) + " joins no texts by +");
      check(code.chars().allMatch(sign -> sign >= 32 && sign < 127), "line " + (i + 1) + " has plain signs alone");
      start = code.endsWith("{") && code.contains("(") && !code.startsWith("}") && !code.startsWith("for ")
          && !code.startsWith("if ") && !code.startsWith("while ") && !code.startsWith("switch ") ? i : start;
      check(i - start < 60 || !lines.get(i).equals("  }") && !lines.get(i).equals("    }"),
          "the method that ends in line " + (i + 1) + " is short");
    }
  }
}
