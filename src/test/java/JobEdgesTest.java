/**
 * The bounds of promises 6 to 9, 17 and 18 and of "Jobs": a test for each sentence, at its bound,
 * one below it and one above it.
 */
final class JobEdgesTest {
  private static final Checks CHECKS = new Checks("JobEdgesTest");
  private static final int GOING = JobshellQuay.GOING;
  private static final int STOPPED = JobshellQuay.STOPPED;
  private static final int ENDED = JobshellQuay.ENDED;

  public static void main(String[] args) {
    runAtOnce();
    statusIs0Then();
    inASubshellWithoutInput();
    numbersWhenTheyEnd();
    atMostSix();
    aSeventhEndsAll();
    withinJobsAndSubshells();
    aLineEachTick();
    withOrWithoutNewline();
    jobsByTheirNumbers();
    endedWithoutLines();
    ticks1To50();
    stoppedOnesWait();
    front();
    kill();
    fullOutput();
    whatJobTells();
    CHECKS.end();
  }

  private static JobshellQuay after(String... texts) {
    return Checks.after(texts);
  }

  /** What it is, its status and how many lines it has left. */
  private static void is(JobshellQuay x, int job, int state, int status, int lines) {
    CHECKS.due("what job " + job + " is", x.job(job, 0), state);
    CHECKS.due("status of job " + job, x.job(job, 1), status);
    CHECKS.due("lines of job " + job, x.job(job, 2), lines);
  }

  private static void output(JobshellQuay x, String due) {
    CHECKS.due("output", Checks.output(x), due.replace('/', '\n'));
    x.flush();
  }

  // ---- how they are run

  private static void runAtOnce() {
    JobshellQuay x = after("(echo a>f;exit 7)&cat<f");
    output(x, "a/");
    is(x, 0, GOING, 7, 0);
    CHECKS.due("status", x.status(), 0);
    is(after("true&"), 0, GOING, 0, 0);
    is(after("false&"), 0, GOING, 1, 0);
    is(after("x&"), 0, GOING, 127, 0);
    is(after("(exit 255)&"), 0, GOING, 255, 0);
    is(after("true&&false&"), 0, GOING, 1, 0);
    is(after("false||true|exit 3&"), 0, GOING, 3, 0);
  }

  private static void statusIs0Then() {
    CHECKS.runs("false;exit 3&", 0, "");
    CHECKS.runs("exit 3&echo $?", 0, "0/");
    CHECKS.runs("if exit 3&then echo a;fi", 0, "a/");
    CHECKS.runs("f(){ exit 3&};false;f", 0, "");
    CHECKS.runs("(exit 3&);echo $?", 0, "0/");
    CHECKS.runs("false;echo $?&echo $?", 0, "0/");
    JobshellQuay x = after("false;exit&");
    is(x, 0, GOING, 1, 0);
  }

  private static void inASubshellWithoutInput() {
    JobshellQuay x = after("a=1;set p;a=2&set q&f(){x;}&exit 3&");
    CHECKS.goesOn(x, "echo $a $1;f", 127, "1 p/");
    JobshellQuay y = after("f(){wc&wc;};echo ab>g;f<g;echo c|{wc&wc}");
    output(y, "3/2/");
    CHECKS.due("pass", y.pass(1), 2);
    output(y, "0/0/");
    is(after("f(){return 3&};f"), 0, GOING, 1, 0);
    is(after("f(){local a&};f"), 0, GOING, 1, 0);
    is(after("while true;do break&break;done"), 0, GOING, 1, 0);
  }

  private static void numbersWhenTheyEnd() {
    JobshellQuay x = after("(echo a;(echo b;exit 2)&exit 1)&exit 3&");
    CHECKS.due("jobs", x.jobs(), 3);
    is(x, 0, GOING, 2, 1);
    is(x, 1, GOING, 1, 1);
    is(x, 2, GOING, 3, 0);
    JobshellQuay y = new JobshellQuay();
    for (int i = 0; i < 6; i++) {
      CHECKS.due("jobs", y.jobs(), i);
      Checks.run(y, "exit " + i + "&");
      is(y, i, GOING, i, 0);
    }
  }

  private static void atMostSix() {
    CHECKS.runs("a&a&a&a&a&echo b", 0, "b/");
    CHECKS.runs("a&a&a&a&a&a&echo b", 0, "b/");
    CHECKS.runs("a&a&a&a&a&a&a&echo b", 126, "");
    for (int count = 4; count <= 8; count++) {
      JobshellQuay x = after(Checks.times("a&", count));
      CHECKS.due("jobs", x.jobs(), Math.min(6, count));
      CHECKS.due("status", x.status(), count > 6 ? 126 : 0);
    }
    JobshellQuay x = after("a&a&a&a&a&a&");
    x.pass(50);
    CHECKS.due("ended ones count", Checks.run(x, "a&"), 126);
    CHECKS.due("jobs", x.jobs(), 6);
    JobshellQuay y = after("a&a&a&a&a&");
    y.kill(0);
    y.front(1);
    CHECKS.due("a sixth", Checks.run(y, "a&"), 0);
    CHECKS.due("a seventh", Checks.run(y, "a&"), 126);
    is(y, 5, GOING, 127, 0);
  }

  private static void aSeventhEndsAll() {
    JobshellQuay x = after("a=1;set p;a&a&a&a&a&a&", "f(){local a;a=2;set q;(echo b>g;echo c)&}");
    CHECKS.goesOn(x, "echo d;f;echo e", 126, "d/");
    CHECKS.due("a", Checks.value(x, 'a'), "1");
    CHECKS.due("files", Checks.files(x), "g=b/ ");
    CHECKS.due("jobs", x.jobs(), 6);
    x.flush();
    CHECKS.due("nothing comes out of it", x.pass(50), 0);
    CHECKS.goesOn(x, "echo $? $1 $#", 0, "126 p 1/");
    CHECKS.goesOn(x, "(a&);echo b", 126, "");
    CHECKS.goesOn(x, "echo $(a&);echo b", 126, "");
    CHECKS.goesOn(x, "true||a&echo b", 126, "");
    CHECKS.goesOn(x, "true||{a&};echo b", 0, "b/");
    JobshellQuay y = after("a&a&a&a&a&(b&c)&echo d");
    CHECKS.due("the inner one is the sixth", y.status(), 126);
    CHECKS.due("jobs", y.jobs(), 6);
    output(y, "");
  }

  private static void withinJobsAndSubshells() {
    JobshellQuay x = after("(echo a&echo b);echo $(echo c&echo d);{echo e&}|cat;f(){echo g&};f");
    output(x, "b/d/");
    CHECKS.due("jobs", x.jobs(), 4);
    CHECKS.due("pass", x.pass(1), 4);
    output(x, "a/c/e/g/");
    JobshellQuay y = after("(echo a;(echo b;(echo c)&)&)&");
    CHECKS.due("jobs", y.jobs(), 3);
    CHECKS.due("pass", y.pass(1), 3);
    output(y, "c/b/a/");
    JobshellQuay z = after("f(){echo a&echo b;};f>g");
    CHECKS.due("files", Checks.files(z), "g=b/ ");
    CHECKS.due("pass", z.pass(1), 1);
    output(z, "a/");
  }

  // ---- ticks

  private static void aLineEachTick() {
    JobshellQuay x = after("(echo a;echo;echo b)&");
    is(x, 0, GOING, 0, 3);
    CHECKS.due("pass", x.pass(1), 1);
    output(x, "a/");
    is(x, 0, GOING, 0, 2);
    CHECKS.due("pass", x.pass(1), 1);
    output(x, "/");
    is(x, 0, GOING, 0, 1);
    CHECKS.due("pass", x.pass(1), 1);
    output(x, "b/");
    is(x, 0, ENDED, 0, 0);
    CHECKS.due("pass", x.pass(1), 0);
    output(x, "");
  }

  private static void withOrWithoutNewline() {
    String sixty = Checks.chars(60);
    JobshellQuay x = after("a=" + sixty, "echo $a>f;echo b>g;cat<f&(cat<f;cat<g)&(cat<g;cat<f)&");
    is(x, 0, GOING, 0, 1);
    is(x, 1, GOING, 0, 1);
    is(x, 2, GOING, 0, 2);
    CHECKS.due("pass", x.pass(1), 3);
    output(x, sixty + sixty + "b/b/");
    is(x, 0, ENDED, 0, 0);
    is(x, 2, GOING, 0, 1);
    CHECKS.due("pass", x.pass(1), 1);
    output(x, sixty);
    is(x, 2, ENDED, 0, 0);
  }

  private static void jobsByTheirNumbers() {
    JobshellQuay x = after("(echo a;echo b;echo c)&(echo d;echo e)&echo f&(echo g;echo h)&");
    CHECKS.due("pass", x.pass(2), 7);
    output(x, "a/d/f/g/b/e/h/");
    CHECKS.due("pass", x.pass(2), 1);
    output(x, "c/");
    JobshellQuay y = after("echo a&(echo b;echo c)&", "echo d");
    CHECKS.due("pass", y.pass(1), 2);
    Checks.run(y, "echo e&");
    CHECKS.due("pass", y.pass(1), 2);
    output(y, "d/a/b/c/e/");
  }

  private static void endedWithoutLines() {
    JobshellQuay x = after("true&echo a&(echo b;echo c)&");
    is(x, 0, GOING, 0, 0);
    CHECKS.due("pass", x.pass(1), 2);
    is(x, 0, ENDED, 0, 0);
    is(x, 1, ENDED, 0, 0);
    is(x, 2, GOING, 0, 1);
    CHECKS.due("pass", x.pass(1), 1);
    is(x, 2, ENDED, 0, 0);
    CHECKS.due("status", x.status(), 0);
    is(after(">f;cat<f&"), 0, GOING, 0, 0);
  }

  private static void ticks1To50() {
    for (int wrong : new int[] {-1, 0, 51}) {
      JobshellQuay x = after("echo a&");
      CHECKS.thrown("pass", IllegalArgumentException.class, () -> x.pass(wrong));
      is(x, 0, GOING, 0, 1);
    }
    String[] texts = {"n=$(echo 1;echo 2;echo 3;echo 4;echo 5;echo 6;echo 7)", "n=$(echo \"$n$n\")",
        "n=$(echo \"$n$n$n\")", "(echo \"$n\";echo \"$n\")&"};
    JobshellQuay y = after(texts);
    int lines = y.job(0, 2);
    CHECKS.due("lines", lines > 50 ? 1 : 0, 1);
    CHECKS.due("pass of 1", y.pass(1), 1);
    CHECKS.due("lines", y.job(0, 2), lines - 1);
    CHECKS.due("pass of 49", y.pass(49), 49);
    CHECKS.due("lines", y.job(0, 2), lines - 50);
    JobshellQuay z = after(texts);
    CHECKS.due("pass of 50", z.pass(50), 50);
    CHECKS.due("lines", z.job(0, 2), lines - 50);
    CHECKS.due("pass of 50", z.pass(50), lines - 50);
    is(z, 0, ENDED, 0, 0);
    CHECKS.due("pass of 50 without jobs", new JobshellQuay().pass(50), 0);
  }

  private static void stoppedOnesWait() {
    JobshellQuay x = after("(echo a;echo b)&(echo c;echo d)&true&");
    CHECKS.due("turn", x.turn(0), GOING);
    CHECKS.due("turn", x.turn(2), GOING);
    is(x, 0, STOPPED, 0, 2);
    CHECKS.due("pass", x.pass(50), 2);
    output(x, "c/d/");
    is(x, 0, STOPPED, 0, 2);
    is(x, 1, ENDED, 0, 0);
    is(x, 2, STOPPED, 0, 0);
    CHECKS.due("turn", x.turn(0), STOPPED);
    CHECKS.due("turn", x.turn(2), STOPPED);
    is(x, 2, GOING, 0, 0);
    CHECKS.due("pass", x.pass(1), 1);
    output(x, "a/");
    is(x, 0, GOING, 0, 1);
    is(x, 2, ENDED, 0, 0);
    CHECKS.due("turn", x.turn(0), GOING);
    CHECKS.due("turn again", x.turn(0), STOPPED);
    CHECKS.due("turn again", x.turn(0), GOING);
    is(x, 0, STOPPED, 0, 1);
  }

  // ---- front and kill

  private static void front() {
    JobshellQuay x = after("(echo a;echo b;exit 3)&(echo c;exit 4)&exit 5&(echo d;echo e)&");
    CHECKS.due("front", x.front(0), 3);
    CHECKS.due("status", x.status(), 3);
    is(x, 0, ENDED, 3, 0);
    output(x, "a/b/");
    x.turn(1);
    CHECKS.due("front of a stopped one", x.front(1), 4);
    CHECKS.due("status", x.status(), 4);
    is(x, 1, ENDED, 4, 0);
    output(x, "c/");
    CHECKS.due("front of one without lines", x.front(2), 5);
    CHECKS.due("status", x.status(), 5);
    is(x, 2, ENDED, 5, 0);
    output(x, "");
    CHECKS.due("pass", x.pass(1), 1);
    output(x, "d/");
    CHECKS.due("front of one with a line left", x.front(3), 0);
    CHECKS.due("status", x.status(), 0);
    output(x, "e/");
    CHECKS.due("pass", x.pass(1), 0);
    CHECKS.goesOn(after("exit 3&"), "echo $?", 0, "0/");
    JobshellQuay y = after("exit 3&");
    y.front(0);
    CHECKS.goesOn(y, "echo $?", 0, "3/");
  }

  private static void kill() {
    JobshellQuay x = after("(echo a;echo b)&(echo c;exit 4)&exit 5&(echo d;echo e)&", "exit 9");
    CHECKS.due("kill", x.kill(0), 2);
    is(x, 0, ENDED, 137, 0);
    x.turn(1);
    CHECKS.due("kill of a stopped one", x.kill(1), 1);
    is(x, 1, ENDED, 137, 0);
    CHECKS.due("kill of one without lines", x.kill(2), 0);
    is(x, 2, ENDED, 137, 0);
    CHECKS.due("pass", x.pass(1), 1);
    CHECKS.due("kill of one with a line left", x.kill(3), 1);
    is(x, 3, ENDED, 137, 0);
    CHECKS.due("pass", x.pass(50), 0);
    output(x, "d/");
    CHECKS.due("status is that of the shell", x.status(), 9);
    CHECKS.due("jobs", x.jobs(), 4);
  }

  private static void fullOutput() {
    String[] texts = {"a=" + Checks.chars(97), "echo $a;echo $a;echo $a",
        "(echo bcdefghi;echo j)&"};
    JobshellQuay x = after(texts);
    CHECKS.due("size", x.size(), 294);
    CHECKS.due("pass", x.pass(1), 1);
    CHECKS.due("size", x.size(), 300);
    CHECKS.due("its last char", x.charAt(299), 'g');
    is(x, 0, GOING, 0, 1);
    CHECKS.due("pass", x.pass(1), 1);
    CHECKS.due("size", x.size(), 300);
    is(x, 0, ENDED, 0, 0);
    JobshellQuay y = after(texts);
    CHECKS.due("front", y.front(0), 0);
    CHECKS.due("size", y.size(), 300);
    y.flush();
    CHECKS.due("what is gone is gone", y.pass(50), 0);
    output(y, "");
    JobshellQuay z = after(texts);
    z.flush();
    CHECKS.due("pass", z.pass(50), 2);
    output(z, "bcdefghi/j/");
  }

  private static void whatJobTells() {
    JobshellQuay x = after("(echo a;exit 3)&");
    is(x, 0, GOING, 3, 1);
    for (int wrong : new int[] {-1, 3}) {
      CHECKS.thrown("job", IllegalArgumentException.class, () -> x.job(0, wrong));
      CHECKS.thrown("job", IndexOutOfBoundsException.class, () -> x.job(1, wrong));
      CHECKS.thrown("job", IndexOutOfBoundsException.class, () -> x.job(-1, wrong));
    }
    CHECKS.due("jobs without one", new JobshellQuay().jobs(), 0);
    CHECKS.due("jobs", x.jobs(), 1);
    x.kill(0);
    CHECKS.due("how many there were", x.jobs(), 1);
  }
}
