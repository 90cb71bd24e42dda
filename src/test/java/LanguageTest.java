import java.io.IOException;
import java.lang.reflect.Field;
import java.lang.reflect.Method;
import java.lang.reflect.Modifier;
import java.nio.file.Files;
import java.nio.file.Path;
import java.util.Arrays;
import java.util.HashSet;
import java.util.List;
import java.util.Set;
import java.util.TreeSet;
import java.util.regex.Matcher;
import java.util.regex.Pattern;

/** Checks the face of the class and those rules of LANGUAGE.md that can be read off its text. */
public final class LanguageTest {
  private static int wrong = 0;

  private static final String[] FACE = {
    "input int", "map int int char int", "filter int int char int", "sum int int int",
    "negative int int", "join int int int char", "group int int char int", "distinct int int",
    "variable int", "recursion int int int int", "views int", "arrangements int",
    "change int int int int int int int", "close int int int", "isClosed boolean int int",
    "forget int int int", "changes int", "rows int int int int", "keyAt int int",
    "valueAt int int", "weightAt int int", "timeAt int int", "differences int int",
    "weight int int int int int int", "errors int int int int", "explain int int int int int int",
    "explained int int", "isFinal boolean int int int", "found long", "closedShare float",
    "meanWeight double", "isSound boolean"
  };

  private static final String[] FORBIDDEN = {
    "->", "::", "synchronized", "assert ", "finally", "catch", "Exact(", "System.out", "Random",
    "getMessage", "hashCode", "toString", "protected", "static {", "package ", "HashMap", "...",
    "@", "NaN", "Object "
  };

  /* What rule 4 lists and this class has use for; all else of the library is not there. */
  private static final Set<String> LIBRARY = Set.of("Math.max", "Math.min", "Math.abs",
      "Math.floorMod", "Math.floorDiv", "Integer.compare", "Integer.bitCount", "Integer.max",
      "Integer.min", "Long.compare", "Long.max", "Long.min", "Arrays.copyOf", "Arrays.copyOfRange",
      "Arrays.fill", "System.arraycopy");
  private static final Pattern LIBRARY_CALL =
      Pattern.compile("\\b(Math|Integer|Long|Arrays|System)\\.[a-zA-Z]+");

  private static final Pattern THROWN = Pattern.compile("throw new (IllegalState|IllegalArgument"
      + "|IndexOutOfBounds|Arithmetic|UnsupportedOperation|NoSuchElement)"
      + "(Exception)\\(\"[a-z0-9 ]+\"\\);");

  public static void main(String[] args) throws IOException {
    face();
    members();
    text(Files.readAllLines(Path.of("src/main/java/DifferenceMill.java")));
    System.out.println(wrong == 0 ? "the language is kept" : wrong + " rules are broken");
    System.exit(wrong == 0 ? 0 : 1);
  }

  private static void check(boolean holds, String what) {
    if (!holds) {
      wrong++;
      System.out.println(what);
    }
  }

  private static void face() {
    Set<String> due = new TreeSet<>(Arrays.asList(FACE));
    Set<String> got = new TreeSet<>();
    Set<String> names = new HashSet<>();
    for (Method m : DifferenceMill.class.getDeclaredMethods()) {
      if (Modifier.isPublic(m.getModifiers())) {
        StringBuilder text = new StringBuilder(m.getName() + " " + m.getReturnType());
        for (Class<?> type : m.getParameterTypes()) {
          text.append(' ').append(type);
        }
        got.add(text.toString());
        names.add(m.getName());
      }
    }
    check(due.equals(got), "the face is " + got);
    for (Class<?> c : DifferenceMill.class.getDeclaredClasses()) {
      for (Method m : c.getDeclaredMethods()) {
        check(!names.contains(m.getName()), "a public name in " + c + ": " + m.getName());
      }
    }
    for (Method m : DifferenceMill.class.getDeclaredMethods()) {
      boolean hidden = Modifier.isPrivate(m.getModifiers());
      check(!hidden || !names.contains(m.getName()), "a public name that is private: " + m);
    }
    check(DifferenceMill.class.getDeclaredConstructors().length == 1, "more than one constructor");
    check(Modifier.isFinal(DifferenceMill.class.getModifiers()), "the class is not final");
  }

  private static void members() {
    for (Method m : DifferenceMill.class.getDeclaredMethods()) {
      int kind = m.getModifiers();
      check(Modifier.isPublic(kind) || Modifier.isPrivate(kind), "visible: " + m);
      check(m.getParameterCount() <= 7, "too many parameters: " + m);
    }
    Class<?>[] inner = DifferenceMill.class.getDeclaredClasses();
    check(inner.length <= 12, inner.length + " classes inside");
    fields(DifferenceMill.class);
    for (Class<?> c : inner) {
      check(Modifier.isStatic(c.getModifiers()) && !Modifier.isPublic(c.getModifiers()), "" + c);
      fields(c);
      for (Method m : c.getDeclaredMethods()) {
        check(m.getParameterCount() <= 7, "too many parameters: " + m);
      }
    }
  }

  private static void fields(Class<?> c) {
    int count = 0;
    for (Field f : c.getDeclaredFields()) {
      boolean constant = Modifier.isStatic(f.getModifiers());
      count += constant ? 0 : 1;
      check(!constant || Modifier.isFinal(f.getModifiers()), "no constant: " + f);
      check(c != DifferenceMill.class || Modifier.isPrivate(f.getModifiers()), "visible: " + f);
    }
    check(count <= 20, count + " fields in " + c);
  }

  private static void text(List<String> lines) {
    int start = -1;
    for (int i = 0; i < lines.size(); i++) {
      String line = lines.get(i);
      check(line.length() <= 100, "line " + (i + 1) + " is long");
      boolean comment = line.trim().startsWith("/*") || line.trim().startsWith("//");
      for (String word : FORBIDDEN) {
        check(comment || !line.contains(word), "line " + (i + 1) + " has " + word);
      }
      check(!line.startsWith("import") || line.equals("import java.util.Arrays;")
          || line.equals("import java.util.NoSuchElementException;"), "line " + (i + 1));
      for (char c : line.toCharArray()) {
        check(c >= 32 && c < 127, "line " + (i + 1) + " has the sign " + (int) c);
      }
      Matcher call = LIBRARY_CALL.matcher(comment ? "" : line);
      while (call.find()) {
        check(LIBRARY.contains(call.group()), "line " + (i + 1) + " calls " + call.group());
      }
      boolean thrown = line.contains("throw ") && !comment;
      check(!thrown || THROWN.matcher(line.trim()).matches(), "line " + (i + 1) + " throws");
      boolean opens = line.matches(" {2,4}[a-zA-Z].*\\(.*") && !line.trim().endsWith(";")
          && !line.matches(" {2,4}(if|for|while|switch|return|throw) .*");
      start = opens ? i : start;
      if (line.matches(" {2,4}}") && start >= 0) {
        check(i - start < 60, "the method of line " + (start + 1) + " is long");
        start = -1;
      }
    }
  }
}
