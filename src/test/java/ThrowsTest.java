/**
 * Exceptions: each one that the document names, at its bound and on both sides of it; the one that
 * is named first, if several apply; and that a call that throws changes nothing.
 */
final class ThrowsTest {
  private static final Checks CHECKS = new Checks("ThrowsTest");
  private static final Class<?> NO_PLACE = IndexOutOfBoundsException.class;
  private static final Class<?> RANGE = IllegalArgumentException.class;
  private static final Class<?> STATE = IllegalStateException.class;
  private static final int MOST = Integer.MAX_VALUE;
  private static final int LEAST = Integer.MIN_VALUE;

  public static void main(String[] args) {
    type();
    run();
    pass();
    turnFrontKill();
    charAt();
    value();
    file();
    job();
    fieldsByPlace();
    othersNeverThrow();
    CHECKS.end();
  }

  /** One of each: names, a file, output, parameters, a function, jobs of each kind, a text. */
  private static JobshellQuay full() {
    JobshellQuay x = Checks.after("a=1;b=;f(){echo $1;};set p q;echo x>g;echo y",
        "(echo a;echo b)&echo c&(echo d;echo e)&exit 7", "exit 5");
    x.turn(2);
    x.front(1);
    Checks.run(x, "exit 5");
    Checks.type(x, "$a $1 g*");
    return x;
  }

  /** The call throws this, and all is as it was, also what only later runs tell. */
  private static void thrown(JobshellQuay x, String what, Class<?> want, Checks.Call call) {
    String was = Checks.told(x);
    CHECKS.thrown(what, want, call);
    CHECKS.due("all behind " + what, Checks.told(x), was);
  }

  /** Parameters, functions and the text are as full() left them. */
  private static void stillFull(JobshellQuay x) {
    CHECKS.due("the text", x.clear(), 8);
    CHECKS.goesOn(x, "echo $? $# $1 $2;f z", 0, "5 2 p q/z/");
    CHECKS.due("a line", x.pass(1), 1);
  }

  private static void type() {
    JobshellQuay x = full();
    for (char wrong : new char[] {0, 9, 10, '!', '%', '.', '/', '@', 'A', 'Z', '[', ']', '^', '_',
        '`', '~', 127, 128, 255, 256, 256 + 'a', 65535}) {
      thrown(x, "type of " + (int) wrong, RANGE, () -> x.type(wrong));
    }
    stillFull(x);
    JobshellQuay y = full();
    for (int i = 9; i <= 119; i++) {
      CHECKS.due("type", y.type(' '), i);
    }
    CHECKS.due("the last that may be typed", y.type(' '), 120);
    thrown(y, "type of one more", STATE, () -> y.type(' '));
    thrown(y, "type of a letter more", STATE, () -> y.type('a'));
    thrown(y, "type of a wrong one more", RANGE, () -> y.type('A'));
    CHECKS.due("clear", y.clear(), 120);
    CHECKS.due("type behind that", y.type('a'), 1);
  }

  private static void run() {
    JobshellQuay x = full();
    Checks.type(x, ";;");
    thrown(x, "run of no list", STATE, () -> x.run());
    CHECKS.due("the text", x.clear(), 10);
    Checks.type(x, "rm g;a=2;exit 3;f(){b;}&(");
    thrown(x, "run of what is no list at its end", STATE, () -> x.run());
    x.clear();
    thrown(x, "run of nothing", STATE, () -> x.run());
    Checks.type(x, "$a $1 g*");
    stillFull(x);
    JobshellQuay y = new JobshellQuay();
    thrown(y, "run of nothing", STATE, () -> y.run());
    Checks.type(y, " ");
    thrown(y, "run of a blank", STATE, () -> y.run());
    Checks.type(y, "a");
    CHECKS.due("run of a list", y.run(), 127);
    thrown(y, "run again", STATE, () -> y.run());
  }

  private static void pass() {
    JobshellQuay x = full();
    for (int wrong : new int[] {LEAST, -1, 0, 51, 52, 256 + 1, MOST}) {
      thrown(x, "pass of " + wrong, RANGE, () -> x.pass(wrong));
    }
    CHECKS.due("pass of 1", full().pass(1), 1);
    CHECKS.due("pass of 2", full().pass(2), 2);
    CHECKS.due("pass of 50", full().pass(50), 2);
    CHECKS.due("pass of 49", full().pass(49), 2);
    stillFull(x);
  }

  private static void turnFrontKill() {
    JobshellQuay x = full();
    for (int none : new int[] {LEAST, -1, 3, 4, 5, 6, MOST}) {
      thrown(x, "turn of " + none, NO_PLACE, () -> x.turn(none));
      thrown(x, "front of " + none, NO_PLACE, () -> x.front(none));
      thrown(x, "kill of " + none, NO_PLACE, () -> x.kill(none));
    }
    thrown(x, "turn of one that is ended", STATE, () -> x.turn(1));
    thrown(x, "front of one that is ended", STATE, () -> x.front(1));
    thrown(x, "kill of one that is ended", STATE, () -> x.kill(1));
    stillFull(x);
    JobshellQuay y = new JobshellQuay();
    thrown(y, "turn without jobs", NO_PLACE, () -> y.turn(0));
    thrown(y, "front without jobs", NO_PLACE, () -> y.front(0));
    thrown(y, "kill without jobs", NO_PLACE, () -> y.kill(0));
    JobshellQuay z = Checks.after("a&b&c&d&e&f&");
    CHECKS.due("turn of the last one", z.turn(5), JobshellQuay.GOING);
    thrown(z, "turn of the one behind", NO_PLACE, () -> z.turn(6));
    CHECKS.due("kill of the last one", z.kill(5), 0);
    thrown(z, "kill of one that was killed", STATE, () -> z.kill(5));
    thrown(z, "front of one that was killed", STATE, () -> z.front(5));
    thrown(z, "turn of one that was killed", STATE, () -> z.turn(5));
    z.pass(1);
    thrown(z, "turn of one that ended by itself", STATE, () -> z.turn(0));
    thrown(z, "front of one that ended by itself", STATE, () -> z.front(0));
    thrown(z, "kill of one that ended by itself", STATE, () -> z.kill(0));
  }

  private static void charAt() {
    JobshellQuay x = full();
    int size = x.size();
    CHECKS.due("size", size, 4);
    for (int none : new int[] {LEAST, -1, size, size + 1, 300, MOST}) {
      thrown(x, "charAt of " + none, NO_PLACE, () -> x.charAt(none));
    }
    CHECKS.due("charAt of the first", x.charAt(0), 'y');
    CHECKS.due("charAt of the last", x.charAt(size - 1), '\n');
    x.flush();
    thrown(x, "charAt without output", NO_PLACE, () -> x.charAt(0));
    stillFull(x);
    JobshellQuay y = Checks.after("a=" + Checks.chars(99), "echo $a;echo $a;echo $a;echo b");
    CHECKS.due("charAt of the last of 300", y.charAt(299), '\n');
    thrown(y, "charAt behind it", NO_PLACE, () -> y.charAt(300));
  }

  private static void value() {
    JobshellQuay x = full();
    for (int none : new int[] {LEAST, -1, 26, 27, 'a', MOST}) {
      thrown(x, "value of " + none, NO_PLACE, () -> x.value(none, 0));
      thrown(x, "value of it below 0", NO_PLACE, () -> x.value(none, -1));
    }
    for (int name : new int[] {0, 1, 2, 25}) {
      thrown(x, "value below 0", NO_PLACE, () -> x.value(name, -1));
      thrown(x, "value far below 0", NO_PLACE, () -> x.value(name, LEAST));
    }
    CHECKS.due("value of the first", x.value(0, 0), '1');
    CHECKS.due("value behind it", x.value(0, 1), -1);
    CHECKS.due("value far behind it", x.value(0, MOST), -1);
    CHECKS.due("value of an empty one", x.value(1, 0), -1);
    CHECKS.due("value of the last", x.value(25, 0), -2);
    CHECKS.due("value of the last far behind", x.value(25, MOST), -2);
    stillFull(x);
  }

  private static void file() {
    JobshellQuay x = full();
    for (int none : new int[] {LEAST, -1, 1, 2, 8, MOST}) {
      for (boolean isName : new boolean[] {true, false}) {
        thrown(x, "file of " + none, NO_PLACE, () -> x.file(none, 0, isName));
        thrown(x, "file of it below 0", NO_PLACE, () -> x.file(none, -1, isName));
      }
    }
    for (int place : new int[] {LEAST, -1}) {
      thrown(x, "file below 0", NO_PLACE, () -> x.file(0, place, true));
      thrown(x, "file below 0", NO_PLACE, () -> x.file(0, place, false));
    }
    CHECKS.due("file behind its name", x.file(0, 1, true), -1);
    CHECKS.due("file far behind its name", x.file(0, MOST, true), -1);
    CHECKS.due("file behind what it has", x.file(0, 2, false), -1);
    CHECKS.due("file far behind what it has", x.file(0, MOST, false), -1);
    stillFull(x);
    JobshellQuay y = Checks.after(">1;>2;>3;>4;>5;>6;>7;>8");
    CHECKS.due("file of the last", y.file(7, 0, true), '8');
    thrown(y, "file behind the last", NO_PLACE, () -> y.file(8, 0, true));
    Checks.run(y, "rm 4");
    thrown(y, "file behind the last", NO_PLACE, () -> y.file(7, 0, true));
    JobshellQuay z = new JobshellQuay();
    thrown(z, "file without files", NO_PLACE, () -> z.file(0, 0, true));
  }

  private static void job() {
    JobshellQuay x = full();
    for (int none : new int[] {LEAST, -1, 3, 6, MOST}) {
      for (int what : new int[] {LEAST, -1, 0, 1, 2, 3, MOST}) {
        thrown(x, "job of " + none + ", " + what, NO_PLACE, () -> x.job(none, what));
      }
    }
    for (int job = 0; job < 3; job++) {
      int there = job;
      for (int wrong : new int[] {LEAST, -1, 3, 4, MOST}) {
        thrown(x, "job of what " + wrong, RANGE, () -> x.job(there, wrong));
      }
    }
    CHECKS.due("what 0", x.job(2, 0), JobshellQuay.STOPPED);
    CHECKS.due("what 1", x.job(2, 1), 0);
    CHECKS.due("what 2", x.job(2, 2), 2);
    stillFull(x);
    JobshellQuay y = new JobshellQuay();
    thrown(y, "job without jobs", NO_PLACE, () -> y.job(0, 0));
    thrown(y, "job without jobs of a wrong what", NO_PLACE, () -> y.job(0, 3));
  }

  private static void fieldsByPlace() {
    JobshellQuay x = full();
    for (int[] wrong : new int[][] {{-1, 0}, {LEAST, 0}, {0, -1}, {0, LEAST}, {-1, -1}, {9, -1},
        {-1, 9}, {MOST, LEAST}}) {
      thrown(x, "fieldAt below 0", NO_PLACE, () -> x.fieldAt(wrong[0], wrong[1]));
      thrown(x, "fieldAnew below 0", NO_PLACE, () -> x.fieldAnew(wrong[0], wrong[1]));
    }
    stillFull(x);
    JobshellQuay y = new JobshellQuay();
    for (String text : new String[] {"", "a;", "(", "$(b)"}) {
      y.clear();
      Checks.type(y, text);
      thrown(y, "fieldAt below 0", NO_PLACE, () -> y.fieldAt(-1, 0));
      thrown(y, "fieldAt below 0", NO_PLACE, () -> y.fieldAt(0, -1));
      thrown(y, "fieldAnew below 0", NO_PLACE, () -> y.fieldAnew(-1, 0));
      thrown(y, "fieldAnew below 0", NO_PLACE, () -> y.fieldAnew(0, -1));
      CHECKS.due("fieldAt", y.fieldAt(0, 0), -1);
      CHECKS.due("fieldAnew", y.fieldAnew(0, 0), -1);
      CHECKS.due("fieldAt", y.fieldAt(MOST, MOST), -1);
      CHECKS.due("fieldAnew", y.fieldAnew(MOST, MOST), -1);
    }
  }

  /** Without a throws clause: whatever the text is, and also behind a run that all ended. */
  private static void othersNeverThrow() {
    for (String text : new String[] {"", " ", "(", "a", "'", "while", "{", "$((1))"}) {
      JobshellQuay x = Checks.after("while true;do a;done");
      Checks.type(x, text);
      String was = Checks.told(x);
      x.fault();
      x.status();
      x.size();
      x.files();
      x.jobs();
      x.fields();
      CHECKS.due("all behind the questions", Checks.told(x), was);
      CHECKS.due("flush", x.flush(), 0);
      CHECKS.due("clear", x.clear(), text.length());
    }
  }
}
