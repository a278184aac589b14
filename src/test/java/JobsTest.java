/** Promises 6 to 9, 17 and 18: jobs. */
final class JobsTest {
  private static final Checks CHECKS = new Checks("JobsTest");
  private static final int GOING = JobshellQuay.GOING;
  private static final int STOPPED = JobshellQuay.STOPPED;
  private static final int ENDED = JobshellQuay.ENDED;

  public static void main(String[] args) {
    made();
    passing();
    turning();
    fronting();
    killing();
    asking();
    withinOthers();
    seven();
    CHECKS.end();
  }

  private static JobshellQuay with(String text) {
    JobshellQuay shell = new JobshellQuay();
    Checks.run(shell, text);
    return shell;
  }

  private static void made() {
    JobshellQuay x = with("a=1;a=2&echo $a;false&echo $?;exit 7&");
    CHECKS.due("status", x.status(), 0);
    CHECKS.due("output", Checks.output(x), "1\n0\n");
    CHECKS.due("jobs", x.jobs(), 3);
    CHECKS.due("a", Checks.value(x, 'a'), "1");
    CHECKS.due("status of a job", x.job(0, 1), 0);
    CHECKS.due("status of a job", x.job(1, 1), 1);
    CHECKS.due("status of a job", x.job(2, 1), 7);
    CHECKS.due("state of a job", x.job(2, 0), GOING);
    CHECKS.due("status after a job", with("false;true&").status(), 0);
    CHECKS.due("status after a job", with("false;false&").status(), 0);
    CHECKS.due("jobs", with("{ a;}&(b)&if c;then d;fi&while e;do f;done&g(){h;}&").jobs(), 5);
    CHECKS.due("jobs", with("if (true)then echo a&fi;>f&''&a=1&").jobs(), 4);
    CHECKS.due("status after a function in a job", Checks.run(with("f(){ echo;}&"), "f"), 127);
    JobshellQuay y = with("echo a>f&cat<f;echo b|cat|wc&&false&echo c&&echo d&");
    CHECKS.due("output", Checks.output(y), "a\n");
    CHECKS.due("jobs", y.jobs(), 3);
    CHECKS.due("lines", y.job(0, 2), 0);
    CHECKS.due("lines", y.job(1, 2), 1);
    CHECKS.due("lines", y.job(2, 2), 2);
    CHECKS.due("status", y.job(1, 1), 1);
    JobshellQuay z = with("f(){cat&cat;};echo a>f;f<f;f>g;break&return&");
    CHECKS.due("no input", Checks.output(z), "a\n");
    CHECKS.due("lines", z.job(0, 2), 0);
    CHECKS.due("break in a job", z.job(2, 1), 1);
    CHECKS.due("return in a job", z.job(3, 1), 1);
  }

  private static void passing() {
    JobshellQuay x = with("(echo a;echo b;echo c)&echo d&true&(echo e;echo f)&echo g");
    CHECKS.due("output", Checks.output(x), "g\n");
    CHECKS.due("pass(1)", x.pass(1), 3);
    CHECKS.due("output", Checks.output(x), "g\na\nd\ne\n");
    CHECKS.due("going", x.job(0, 0), GOING);
    CHECKS.due("ended", x.job(1, 0), ENDED);
    CHECKS.due("ended without a line", x.job(2, 0), ENDED);
    CHECKS.due("going", x.job(3, 0), GOING);
    CHECKS.due("lines left", x.job(0, 2), 2);
    CHECKS.due("pass(50)", x.pass(50), 3);
    CHECKS.due("output", Checks.output(x), "g\na\nd\ne\nb\nf\nc\n");
    CHECKS.due("pass(1)", x.pass(1), 0);
    for (int wrong : new int[] {0, -1, 51, Integer.MAX_VALUE, Integer.MIN_VALUE}) {
      CHECKS.thrown("pass(" + wrong + ")", IllegalArgumentException.class, () -> x.pass(wrong));
    }
    CHECKS.due("pass without jobs", new JobshellQuay().pass(50), 0);
    JobshellQuay y = with("a=12345678901234567890;echo $a$a$a>f;(cat<f;echo b)&cat<f&echo&");
    CHECKS.due("lines", y.job(0, 2), 1);
    CHECKS.due("lines", y.job(1, 2), 1);
    CHECKS.due("lines", y.job(2, 2), 1);
    CHECKS.due("pass(1)", y.pass(1), 3);
    CHECKS.due("size", y.size(), 60 + 2 + 60 + 1);
    CHECKS.due("its last char", y.charAt(122), '\n');
    CHECKS.due("its newline", y.charAt(61), '\n');
    CHECKS.due("no newline", y.charAt(121), '0');
  }

  private static void turning() {
    JobshellQuay x = with("(echo a;echo b)&echo c&");
    CHECKS.due("turn", x.turn(0), GOING);
    CHECKS.due("state", x.job(0, 0), STOPPED);
    CHECKS.due("pass", x.pass(2), 1);
    CHECKS.due("output", Checks.output(x), "c\n");
    CHECKS.due("turn", x.turn(0), STOPPED);
    CHECKS.due("state", x.job(0, 0), GOING);
    CHECKS.due("pass", x.pass(2), 2);
    for (int job = 0; job < 2; job++) {
      int ended = job;
      CHECKS.thrown("turn", IllegalStateException.class, () -> x.turn(ended));
      CHECKS.thrown("front", IllegalStateException.class, () -> x.front(ended));
      CHECKS.thrown("kill", IllegalStateException.class, () -> x.kill(ended));
    }
    for (int none : new int[] {-1, 2, 6, Integer.MAX_VALUE, Integer.MIN_VALUE}) {
      CHECKS.thrown("turn", IndexOutOfBoundsException.class, () -> x.turn(none));
      CHECKS.thrown("front", IndexOutOfBoundsException.class, () -> x.front(none));
      CHECKS.thrown("kill", IndexOutOfBoundsException.class, () -> x.kill(none));
    }
    CHECKS.due("state after that", x.job(0, 0), ENDED);
    JobshellQuay y = with("true&");
    CHECKS.due("turn", y.turn(0), GOING);
    CHECKS.due("pass", y.pass(1), 0);
    CHECKS.due("a stopped one does not end", y.job(0, 0), STOPPED);
  }

  private static void fronting() {
    JobshellQuay x = with("(echo a;echo b;exit 9)&(echo c;exit 8)&");
    CHECKS.due("pass", x.pass(1), 2);
    x.turn(0);
    CHECKS.due("front of a stopped one", x.front(0), 9);
    CHECKS.due("status", x.status(), 9);
    CHECKS.due("state", x.job(0, 0), ENDED);
    CHECKS.due("status of the job", x.job(0, 1), 9);
    CHECKS.due("lines left", x.job(0, 2), 0);
    CHECKS.due("output", Checks.output(x), "a\nc\nb\n");
    CHECKS.due("state", x.job(1, 0), ENDED);
    CHECKS.thrown("front", IllegalStateException.class, () -> x.front(1));
    CHECKS.due("status", x.status(), 9);
    CHECKS.goesOn(x, "echo $?", 0, "9/");
    JobshellQuay y = with("false&");
    CHECKS.due("front", y.front(0), 1);
    CHECKS.due("size", y.size(), 0);
  }

  private static void killing() {
    JobshellQuay x = with("(echo a;echo b;echo c;exit 9)&true&");
    CHECKS.due("pass", x.pass(1), 1);
    CHECKS.due("kill", x.kill(0), 2);
    CHECKS.due("status", x.status(), 0);
    CHECKS.due("status of the job", x.job(0, 1), 137);
    CHECKS.due("state", x.job(0, 0), ENDED);
    CHECKS.due("lines left", x.job(0, 2), 0);
    CHECKS.due("pass", x.pass(5), 0);
    CHECKS.due("output", Checks.output(x), "a\n");
    CHECKS.thrown("kill", IllegalStateException.class, () -> x.kill(0));
    CHECKS.due("status of the job", x.job(0, 1), 137);
    JobshellQuay y = with("echo a&true&");
    y.turn(0);
    CHECKS.due("kill of a stopped one", y.kill(0), 1);
    CHECKS.due("kill of one without lines", y.kill(1), 0);
    CHECKS.due("jobs", y.jobs(), 2);
  }

  private static void asking() {
    JobshellQuay x = with("echo a&");
    CHECKS.thrown("job", IndexOutOfBoundsException.class, () -> x.job(1, 0));
    CHECKS.thrown("job", IndexOutOfBoundsException.class, () -> x.job(-1, 0));
    CHECKS.thrown("job", IndexOutOfBoundsException.class, () -> x.job(1, 3));
    CHECKS.thrown("job", IndexOutOfBoundsException.class, () -> x.job(-1, -1));
    CHECKS.thrown("job", IllegalArgumentException.class, () -> x.job(0, 3));
    CHECKS.thrown("job", IllegalArgumentException.class, () -> x.job(0, -1));
    CHECKS.due("job", x.job(0, 2), 1);
  }

  private static void withinOthers() {
    JobshellQuay x = with("(echo a;echo b&echo c)&echo d|(echo e&cat)|cat;f(){echo $1&};f g");
    CHECKS.due("output", Checks.output(x), "d\n");
    CHECKS.due("jobs", x.jobs(), 4);
    CHECKS.due("pass", x.pass(1), 4);
    CHECKS.due("output", Checks.output(x), "d\nb\na\ne\ng\n");
    CHECKS.due("pass", x.pass(1), 1);
    CHECKS.due("output", Checks.output(x), "d\nb\na\ne\ng\nc\n");
    JobshellQuay y = with("echo $(echo a&echo b)c");
    CHECKS.due("output", Checks.output(y), "bc\n");
    CHECKS.due("pass", y.pass(1), 1);
    CHECKS.due("output", Checks.output(y), "bc\na\n");
  }

  private static void seven() {
    JobshellQuay x = with("a&a&a&a&a&a&echo b");
    CHECKS.due("jobs", x.jobs(), 6);
    CHECKS.due("status", x.status(), 0);
    x.pass(1);
    CHECKS.goesOn(x, "a=1;echo c;echo d>f&a=2", 126, "c/");
    CHECKS.due("a", Checks.value(x, 'a'), "1");
    CHECKS.due("jobs", x.jobs(), 6);
    CHECKS.due("files", Checks.files(x), "f=d/ ");
    CHECKS.goesOn(x, "echo $?", 0, "126/");
    JobshellQuay y = with("a&a&a&a&a&((echo b)&echo c)&echo d");
    CHECKS.due("the inner one is the sixth", y.status(), 126);
    CHECKS.due("jobs", y.jobs(), 6);
    CHECKS.due("pass", y.pass(1), 1);
    CHECKS.due("output", Checks.output(y), "b\n");
  }
}
