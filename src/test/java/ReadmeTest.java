import java.io.ByteArrayOutputStream;
import java.io.IOException;
import java.io.PrintStream;
import java.nio.file.Files;
import java.nio.file.Path;

/** The example in README.md is ReadmeExample.java, and prints what README.md says. */
final class ReadmeTest {
  private static final Checks CHECKS = new Checks("ReadmeTest");

  public static void main(String[] args) throws IOException {
    String readme = Files.readString(Path.of("README.md"));
    String example = Files.readString(Path.of("src/test/java/ReadmeExample.java"));
    CHECKS.due("the example in README.md", block(readme, "```java\n"), example);
    CHECKS.due("what it prints", printed(), block(readme, "It prints\n\n```\n"));
    CHECKS.end();
  }

  /** What stands behind that, up to the end of the block. */
  private static String block(String readme, String ahead) {
    int from = readme.indexOf(ahead);
    int to = from < 0 ? -1 : readme.indexOf("```\n", from + ahead.length());
    return to < 0 ? "" : readme.substring(from + ahead.length(), to);
  }

  private static String printed() {
    PrintStream screen = System.out;
    ByteArrayOutputStream chars = new ByteArrayOutputStream();
    System.setOut(new PrintStream(chars, true));
    try {
      ReadmeExample.main(new String[0]);
    } finally {
      System.setOut(screen);
    }
    return chars.toString().replace("\r\n", "\n");
  }
}
