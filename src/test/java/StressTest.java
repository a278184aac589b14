/**
 * Long rows of calls, made of a fixed row of numbers: no call throws but what the document names,
 * fieldAnew answers what fieldAt does, and the bounds hold. Some go on past the 512th call.
 */
final class StressTest {
  private static final Checks CHECKS = new Checks("StressTest");
  private static final String CHARS =
      "abcdefghijklmnopqrstuvwxyz0123456789 ;&|(){}$'\"\\><=*?+-,#:";
  private static final String[] PARTS = {"echo ", "a", "b", "$a", "${a:-", "${b:+", "}", "{", ",",
      "$((", "))", "$(", ")", "(", ";", "&", "|", "||", "&&", " ", " ", "'", "\"", "\\", "*", "?",
      "f", "f(){", "if ", ";then ", ";else ", ";fi", "while ", ";do ", ";done", ">f", ">>g", "<f",
      "set ", "shift", "local a", "rm f", "break", "return 3", "exit 4", "test a a", "cat", "wc",
      "true", "false", "$1", "$#", "$?", "a=", "b=1", "1", "+2", "{a,b}", "${#a}", "x y", "f 1"};
  private long state = 20261119L;

  public static void main(String[] args) {
    StressTest test = new StressTest();
    for (int i = 0; i < 3000; i++) {
      test.session(i % 50 == 0 ? 3000 : 60);
    }
    CHECKS.end();
  }

  private int below(int bound) {
    state = state * 6364136223846793005L + 1442695040888963407L;
    return (int) ((state >>> 33) % bound);
  }

  private String text() {
    StringBuilder text = new StringBuilder();
    int parts = 1 + below(30);
    for (int i = 0; i < parts; i++) {
      if (below(8) == 0) {
        text.append(CHARS.charAt(below(CHARS.length())));
      } else {
        text.append(PARTS[below(PARTS.length)]);
      }
    }
    return text.toString();
  }

  private void session(int calls) {
    JobshellQuay shell = new JobshellQuay();
    for (int i = 0; i < calls; i++) {
      call(shell);
    }
    CHECKS.due("size in its bound", shell.size() <= 300 ? 1 : 0, 1);
    CHECKS.due("jobs in their bound", shell.jobs() <= 6 ? 1 : 0, 1);
    CHECKS.due("files in their bound", shell.files() <= 8 ? 1 : 0, 1);
  }

  private void call(JobshellQuay shell) {
    try {
      make(shell, below(20));
    } catch (RuntimeException e) {
      Class<?> thrown = e.getClass();
      boolean named = thrown == IllegalStateException.class
          || thrown == IllegalArgumentException.class
          || thrown == IndexOutOfBoundsException.class;
      CHECKS.due("an exception that the document names: " + e, named ? 1 : 0, 1);
    }
  }

  private void make(JobshellQuay shell, int which) {
    switch (which) {
      case 0: shell.clear(); break;
      case 1: shell.pass(below(52)); break;
      case 2: shell.turn(below(8) - 1); break;
      case 3: shell.front(below(8) - 1); break;
      case 4: shell.kill(below(8) - 1); break;
      case 5: shell.charAt(below(320) - 1); break;
      case 6: shell.value(below(28) - 1, below(10) - 1); break;
      case 7: shell.file(below(10) - 1, below(10) - 1, below(2) == 0); break;
      case 8: shell.job(below(8) - 1, below(5) - 1); break;
      case 9: shell.flush(); break;
      case 10: case 11: case 12: sameAnew(shell); break;
      case 13: case 14: shell.fault(); shell.run(); break;
      default: write(shell); break;
    }
  }

  private void write(JobshellQuay shell) {
    shell.clear();
    String text = text();
    for (int i = 0; i < text.length() && i < 120; i++) {
      shell.type(text.charAt(i));
    }
    boolean fits = shell.fault() == JobshellQuay.NONE;
    sameAnew(shell);
    if (fits || below(4) == 0) {
      shell.run();
    }
  }

  private void sameAnew(JobshellQuay shell) {
    int fields = shell.fields();
    CHECKS.due("fields in their bound", fields <= 16 ? 1 : 0, 1);
    for (int field = 0; field <= fields; field++) {
      for (int place = 0; place < 4; place++) {
        CHECKS.due("fieldAnew", shell.fieldAnew(field, place), shell.fieldAt(field, place));
      }
    }
  }
}
