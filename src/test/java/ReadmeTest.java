import java.io.ByteArrayOutputStream;
import java.io.IOException;
import java.io.PrintStream;
import java.net.URL;
import java.net.URLClassLoader;
import java.nio.charset.StandardCharsets;
import java.nio.file.Files;
import java.nio.file.Path;
import java.util.ArrayList;
import java.util.List;
import java.util.stream.Collectors;
import java.util.stream.Stream;
import javax.tools.JavaCompiler;
import javax.tools.ToolProvider;

/** README.md's program prints what README.md says, and its list has each file of the tests. */
public final class ReadmeTest {
  private static int wrong = 0;

  public static void main(String[] args) throws Exception {
    List<String> lines = Files.readAllLines(Path.of("README.md"));
    check(printed(block(lines, "```java")), block(lines, "```text"));
    for (String folder : new String[] {"src/test/java", "src/test/support"}) {
      for (String name : classesIn(Path.of(folder))) {
        boolean listed = lines.stream().anyMatch(line -> line.startsWith("- `" + name + "` "));
        check(listed ? name : "nothing of " + name, name);
      }
    }
    boolean told = block(lines, "```sh").contains(".ci/run");
    check(told ? ".ci/run" : "nothing of .ci/run", ".ci/run");
    System.out.println(wrong == 0 ? "the README is as it works" : wrong + " are wrong");
    System.exit(wrong == 0 ? 0 : 1);
  }

  private static void check(String got, String due) {
    if (!got.equals(due)) {
      wrong++;
      System.out.println("README.md has, or its program prints:\n" + got + "\ndue is:\n" + due);
    }
  }

  /* All blocks that begin so, one behind the other. */
  private static String block(List<String> lines, String start) {
    List<String> inside = new ArrayList<>();
    boolean open = false;
    for (String line : lines) {
      open = open ? !line.equals("```") : line.equals(start);
      if (open && !line.equals(start)) {
        inside.add(line);
      }
    }
    return String.join("\n", inside);
  }

  private static List<String> classesIn(Path folder) throws IOException {
    try (Stream<Path> files = Files.list(folder)) {
      return files.map(file -> file.getFileName().toString().replace(".java", "")).sorted()
          .collect(Collectors.toList());
    }
  }

  private static String printed(String program) throws Exception {
    Path folder = Files.createTempDirectory("readme");
    Path source = folder.resolve("Example.java");
    Path compiled = folder.resolve("Example.class");
    PrintStream screen = System.out;
    ByteArrayOutputStream text = new ByteArrayOutputStream();
    try {
      Files.write(source, program.getBytes(StandardCharsets.UTF_8));
      JavaCompiler compiler = ToolProvider.getSystemJavaCompiler();
      String classes = System.getProperty("java.class.path");
      int failed = compiler.run(null, null, null, "-d", folder.toString(), "-cp", classes,
          source.toString());
      if (failed != 0) {
        return "nothing: it does not compile";
      }
      System.setOut(new PrintStream(text, true, "UTF-8"));
      try (URLClassLoader loader = new URLClassLoader(new URL[] {folder.toUri().toURL()})) {
        loader.loadClass("Example").getMethod("main", String[].class)
            .invoke(null, (Object) new String[0]);
      }
    } finally {
      System.setOut(screen);
      Files.deleteIfExists(compiled);
      Files.deleteIfExists(source);
      Files.deleteIfExists(folder);
    }
    return text.toString("UTF-8").replace(System.lineSeparator(), "\n").stripTrailing();
  }
}
