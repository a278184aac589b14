/**
 * The bounds of one whole run and of outputs (promises 5, 10 to 13 and "Running"): 30 commands, 12
 * in one another, 300 and 200 chars, each at the bound, one below it and one above it; and how all
 * ends.
 */
final class RunBoundsTest {
  private static final Checks CHECKS = new Checks("RunBoundsTest");

  public static void main(String[] args) {
    thirtyCommands();
    thirtyInEveryPlace();
    thirtyEachRunAnew();
    twelveSubshells();
    twelveFunctions();
    twelveCommandsInWords();
    twelveOfAllKinds();
    whatCountsForNothing();
    endsWithFilesAndOutputAsTheyAre();
    endsWithTheOutermostShell();
    endsGivingBack();
    endsFromWithin();
    outermostOutputOf300();
    otherOutputsOf200();
    whatTheOutputKeeps();
    CHECKS.end();
  }

  private static String times(String part, int count) {
    return Checks.times(part, count);
  }

  private static JobshellQuay after(String... texts) {
    return Checks.after(texts);
  }

  // ---- 30 commands

  private static void thirtyCommands() {
    CHECKS.runs(times(">f;", 28) + "echo a", 0, "a/");
    CHECKS.runs(times(">f;", 29) + "echo a", 0, "a/");
    CHECKS.runs(times(">f;", 30) + "echo a", 126, "");
    CHECKS.runs(times("a=;", 29) + "echo a", 0, "a/");
    CHECKS.runs(times("a=;", 30) + "echo a", 126, "");
    CHECKS.runs(times("x;", 29) + "echo a", 0, "a/");
    CHECKS.runs(times("x;", 30) + "echo a", 126, "");
    CHECKS.runs(times("<f;", 29) + "echo a", 0, "a/");
    CHECKS.runs(times("<f;", 30) + "echo a", 126, "");
    CHECKS.runs(times("$a;", 29) + "echo a", 0, "a/");
    CHECKS.runs(times("$a;", 30) + "echo a", 126, "");
    CHECKS.runs(times("f(){a};", 14) + times("x;", 3) + "echo a", 0, "a/");
    JobshellQuay x = new JobshellQuay();
    CHECKS.goesOn(x, "f(){g(){x};g(){x};g(){x};g(){x};g(){x};g(){x};}", 0, "");
    CHECKS.goesOn(x, "f;f;f;f;echo b", 0, "b/");
    CHECKS.goesOn(x, "f;f;f;f;a;echo b", 0, "b/");
    CHECKS.goesOn(x, "f;f;f;f;a;b;echo b", 126, "");
    CHECKS.goesOn(x, "f;f;f;f;g(){x};echo b", 0, "b/");
    CHECKS.goesOn(x, "f;f;f;f;a;g(){x};echo b", 126, "");
    CHECKS.goesOn(x, "f;f;f;f;g(){x}", 0, "");
    CHECKS.goesOn(x, "f;f;f;f;a;g(){x}", 0, "");
    CHECKS.goesOn(x, "f;f;f;f;a;b;g(){x}", 126, "");
  }

  private static void thirtyInEveryPlace() {
    CHECKS.runs("while true;do a;done", 126, "");
    CHECKS.runs("while true;do echo;done", 126, times("/", 15));
    CHECKS.runs("while echo;do true;done", 126, times("/", 15));
    CHECKS.runs("while echo;do echo;done", 126, times("/", 30));
    CHECKS.runs("a;while echo;do echo;done", 126, times("/", 29));
    CHECKS.runs("(" + times("a;", 29) + "echo b)", 0, "b/");
    CHECKS.runs("(" + times("a;", 30) + "echo b)", 126, "");
    CHECKS.runs("{" + times("a;", 29) + "echo b}", 0, "b/");
    CHECKS.runs("{" + times("a;", 30) + "echo b}", 126, "");
    CHECKS.runs("if " + times("a;", 29) + "echo b;then >f;fi", 126, "b/");
    CHECKS.runs(times("a|", 29) + "echo b", 0, "b/");
    CHECKS.runs(times("a|", 30) + "echo b", 126, "");
    CHECKS.runs(times("a||", 29) + "echo b", 0, "b/");
    CHECKS.runs(times("a||", 30) + "echo b", 126, "");
    CHECKS.runs(times("a&&", 33) + "b||echo b", 0, "b/");
    CHECKS.runs(times("a;", 28) + "echo $(echo b)", 0, "b/");
    CHECKS.runs(times("a;", 29) + "echo $(echo b)", 126, "");
    CHECKS.leaves(times("a;", 29) + "echo $(>f)", 126, "");
    CHECKS.leaves(times("a;", 28) + "echo $(>f)", 0, "f= ");
    CHECKS.runs(times("a;", 28) + "b&echo c", 0, "c/");
    CHECKS.runs(times("a;", 29) + "b&echo c", 126, "");
    CHECKS.runs(times("a;", 27) + "f(){echo b};f", 0, "b/");
    CHECKS.runs(times("a;", 28) + "f(){echo b};f", 126, "");
    CHECKS.runs(times("a;", 28) + "f(){ echo b};g", 127, "");
    CHECKS.runs(times("a;", 27) + "echo {$(echo b),c}", 0, "b c/");
    CHECKS.runs(times("a;", 27) + "echo {$(echo b),c}{1,2}", 0, "b1 b2 c1 c2/");
    CHECKS.runs(times("a;", 28) + "echo {$(echo b),c}{1,2}", 126, "");
  }

  private static void thirtyEachRunAnew() {
    JobshellQuay x = new JobshellQuay();
    for (int i = 0; i < 3; i++) {
      CHECKS.goesOn(x, times("a;", 29) + "echo b", 0, "b/");
      CHECKS.goesOn(x, times("a;", 30) + "echo b", 126, "");
    }
    Checks.type(x, "a b c");
    CHECKS.due("fields behind that", x.fields(), 3);
    CHECKS.due("fields behind that", x.fieldAnew(2, 0), 'c');
    x.clear();
    CHECKS.goesOn(x, "echo $?", 0, "126/");
  }

  // ---- 12 in one another

  private static void twelveSubshells() {
    for (int deep : new int[] {11, 12}) {
      CHECKS.runs(times("(", deep) + "echo a" + times(")", deep), 0, "a/");
    }
    CHECKS.runs(times("(", 13) + "echo a" + times(")", 13), 126, "");
    CHECKS.runs(times("(", 12) + "echo a" + times(")", 12) + "&&echo b", 0, "a/b/");
    for (int deep : new int[] {10, 11}) {
      CHECKS.runs(times("(", deep) + "echo a|cat" + times(")", deep), 0, "a/");
      CHECKS.due("jobs", after(times("(", deep) + "echo a&" + times(")", deep)).jobs(), 1);
    }
    CHECKS.runs(times("(", 12) + "echo a|cat" + times(")", 12), 126, "");
    CHECKS.runs(times("(", 12) + "echo a&" + times(")", 12), 126, "");
    CHECKS.due("jobs", after(times("(", 12) + "echo a&" + times(")", 12)).jobs(), 0);
    CHECKS.runs(times("true|(", 6) + "echo a" + times(")", 6), 0, "a/");
    CHECKS.runs(times("true|(", 6) + "(echo a)" + times(")", 6), 126, "");
    CHECKS.runs(times("true|(", 5) + "true|((echo a))" + times(")", 5), 126, "");
    CHECKS.runs(times("true|(", 5) + "true|{(echo a)}" + times(")", 5), 0, "a/");
  }

  private static void twelveFunctions() {
    String deeper = "f(){a=1$a test ${#a} ";
    CHECKS.runs(deeper + "10||f;};f", 0, "");
    CHECKS.runs(deeper + "11||f;};f", 0, "");
    CHECKS.runs(deeper + "12||f;};f", 126, "");
    CHECKS.due("a", Checks.value(after(deeper + "11||f;};f"), 'a'), times("1", 12));
    CHECKS.due("a", Checks.value(after(deeper + "12||f;};f"), 'a'), times("1", 12));
    CHECKS.runs("f(){echo;f;};f", 126, times("/", 12));
    CHECKS.runs("f(){echo;f;};(f)", 126, times("/", 11));
    CHECKS.runs("f(){echo;f;};(((((((((((f)))))))))))", 126, "/");
    CHECKS.runs("f(){echo;f;};((((((((((((f))))))))))))", 126, "");
    CHECKS.runs("f(){echo;};((((((((((((echo a))))))))))));f", 0, "a//");
  }

  private static void twelveCommandsInWords() {
    CHECKS.runs(times("$(", 11) + "echo true" + times(")", 11), 0, "");
    CHECKS.runs(times("$(", 11) + "echo echo echo" + times(")", 11), 0, "");
    CHECKS.runs("echo " + times("$(echo ", 12) + "a" + times(")", 12), 0, "a/");
    CHECKS.runs("echo " + times("$(echo ", 13) + "a" + times(")", 13), 126, "");
    CHECKS.runs("echo " + times("$(", 11) + "echo a" + times(")", 11), 0, "/");
    CHECKS.runs("a=" + times("$(", 12) + "exit 3" + times(")", 12), 3, "");
    CHECKS.runs("a=" + times("$(", 13) + "exit 3" + times(")", 13), 126, "");
    CHECKS.runs(">" + times("$(", 13) + "echo f" + times(")", 13), 126, "");
    CHECKS.runs(times("(", 11) + "echo $(echo b)" + times(")", 11), 0, "b/");
    CHECKS.runs(times("(", 12) + "echo $(echo b)" + times(")", 12), 126, "");
  }

  private static void twelveOfAllKinds() {
    CHECKS.runs("f(){g $(h)&};g(){(echo $1|cat)};h(){echo a;};f", 0, "");
    String inner = "f(){(echo $(echo a)|cat)};";
    CHECKS.runs(inner + times("(", 8) + "f" + times(")", 8), 0, "a/");
    CHECKS.runs(inner + times("(", 9) + "f" + times(")", 9), 126, "");
    CHECKS.due("jobs", after("f(){a&b&};" + times("(", 10) + "f" + times(")", 10)).jobs(), 2);
    CHECKS.due("jobs", after("f(){a&b&};" + times("(", 11) + "f" + times(")", 11)).jobs(), 0);
    CHECKS.runs(inner + times("(", 8) + "f;f;f" + times(")", 8), 0, "a/a/a/");
  }

  private static void whatCountsForNothing() {
    CHECKS.runs(times("{", 50) + "echo a" + times("}", 50), 0, "a/");
    CHECKS.runs(times("if true;then ", 6) + "echo a" + times(";fi", 6), 0, "a/");
    CHECKS.runs(times("(", 12) + "{echo a}" + times(")", 12), 0, "a/");
    CHECKS.runs(times("(", 12) + "if true;then echo a;fi" + times(")", 12), 0, "a/");
    CHECKS.runs(times("(", 12) + "while true;do echo a;break;done" + times(")", 12), 0, "a/");
    CHECKS.runs(times("(", 12) + "f(){ f;};echo a" + times(")", 12), 0, "a/");
    CHECKS.runs(times("(", 12) + "echo $((1))${a:-b}{c,d}" + times(")", 12), 0, "1bc 1bd/");
  }

  // ---- how all ends

  private static void endsWithFilesAndOutputAsTheyAre() {
    JobshellQuay x = after("echo a;echo b>f;>g;rm g;(echo c);echo d|cat;"
        + "while true;do x;done;echo e");
    CHECKS.due("status", x.status(), 126);
    CHECKS.due("output", Checks.output(x), "a\nc\nd\n");
    CHECKS.due("files", Checks.files(x), "f=b/ ");
    CHECKS.runs("(echo a;while true;do x;done)", 126, "a/");
    CHECKS.runs("echo a|{ cat;while true;do x;done;}", 126, "a/");
    CHECKS.runs("{ echo a;while true;do x;done;}|cat", 126, "");
    CHECKS.runs("echo b$(echo a;while true;do x;done)", 126, "");
    CHECKS.leaves("echo a>f;c=$(while true;do x;done) echo b>f", 126, "f= ");
    CHECKS.leaves("echo a>f;echo b $(while true;do x;done) >f", 126, "f=a/ ");
    CHECKS.runs("f(){echo a;while true;do x;done;};f", 126, "a/");
    CHECKS.leaves("a=$(rm h;while true;do x;done)>h", 126, "");
    CHECKS.leaves(">h a=$(rm h;while true;do x;done) true", 126, "");
    CHECKS.leaves("f(){>h a=$(rm h;while true;do x;done) true;};f>i", 126, "i= ");
    CHECKS.leaves("f(){while true;do x;done;};f>h a=$(rm h)", 126, "h= ");
  }

  private static void endsWithTheOutermostShell() {
    JobshellQuay x = after("a=1;set p q;f(){echo f;}");
    Checks.run(x, "a=2;b=3;shift;g(){echo g;};(a=4;set;f(){x;};while true;do x;done);a=5");
    CHECKS.due("status", x.status(), 126);
    CHECKS.goesOn(x, "echo $? $a $b $1 $#;f;g", 0, "126 2 3 q 1/f/g/");
    CHECKS.goesOn(x, "a=6|while true;do a=7;done", 126, "");
    CHECKS.goesOn(x, "echo $a", 0, "2/");
    CHECKS.goesOn(x, "a=8 b=$(while true;do a=7;done)", 126, "");
    CHECKS.goesOn(x, "echo $a$b", 0, "83/");
    CHECKS.goesOn(x, "break", 1, "");
    CHECKS.goesOn(x, "return", 1, "");
    CHECKS.goesOn(x, "local", 1, "");
    CHECKS.goesOn(x, "cat;wc", 0, "0/");
  }

  private static void endsGivingBack() {
    JobshellQuay x = after("a=1;b=2;set p", "g(){local b a;b=5 a=6;set z;while true;do x;done;}");
    Checks.run(x, "f(){local a;a=3;b=4;set r s;h(){echo h;};g t;};f q");
    CHECKS.due("status", x.status(), 126);
    CHECKS.goesOn(x, "echo $a$b $1 $#;h", 0, "14 p 1/h/");
    JobshellQuay y = after("a=1;f(){local a;a=2;f;};f");
    CHECKS.due("status", y.status(), 126);
    CHECKS.due("a", Checks.value(y, 'a'), "1");
    JobshellQuay z = after("f(){local a;a=2;(while true;do x;done);};f");
    CHECKS.due("a", Checks.value(z, 'a'), "nothing");
  }

  private static void endsFromWithin() {
    for (String endless : new String[] {"while true;do x;done", "f(){ f;};f"}) {
      for (String[] around : new String[][] {{"(", ")"}, {"a=$(", ")"}, {"echo {$(", "),x}"},
          {"{", "}|true"}, {"true|{", "}"}, {"{", "}&true"}, {"if ", ";then true;fi"},
          {"while ", ";do break;done"}, {"g(){", "};g"}, {">$(", ")"}, {"{", "}||true"}}) {
        CHECKS.runs(around[0] + endless + around[1] + ";echo b", 126, "");
        CHECKS.due("jobs", after(around[0] + endless + around[1] + ";true&").jobs(), 0);
      }
    }
  }

  // ---- outputs

  private static void outermostOutputOf300() {
    for (int more : new int[] {97, 98, 99, 110}) {
      JobshellQuay x = after("a=" + Checks.chars(99) + ";b=$a", "b=" + Checks.chars(more));
      CHECKS.due("status", Checks.run(x, "echo $a;echo $a;echo $b"), 0);
      String due = times(Checks.chars(99) + "\n", 2) + Checks.chars(more) + "\n";
      CHECKS.due("output", Checks.output(x), due.substring(0, Math.min(300, due.length())));
      CHECKS.due("size", x.size(), Math.min(300, 201 + more));
    }
    JobshellQuay y = after("a=" + Checks.chars(99), "echo $a;(echo $a);f(){echo $a;};f", "echo b");
    CHECKS.due("size", y.size(), 300);
    CHECKS.due("status", Checks.run(y, "echo b|cat;echo c"), 0);
    CHECKS.due("size", y.size(), 300);
    CHECKS.due("flush", y.flush(), 300);
    CHECKS.goesOn(y, "echo b", 0, "b/");
    JobshellQuay z = after("a=" + Checks.chars(99), "f(){echo $a;echo $a;echo $a;echo b;}");
    for (String text : new String[] {"f", "(f)", "true|f", "{ f;}", "if true;then f;fi"}) {
      CHECKS.goesOn(z, text, 0, times(Checks.chars(99) + "/", 3));
    }
  }

  private static void otherOutputsOf200() {
    for (int more : new int[] {98, 99, 100, 110}) {
      JobshellQuay x = after("a=" + Checks.chars(99), "b=" + Checks.chars(more),
          "f(){echo $a;echo $b;}");
      int due = Math.min(200, 101 + more);
      CHECKS.goesOn(x, "f|wc", 0, due + "/");
      CHECKS.goesOn(x, "f|cat|cat|wc", 0, due + "/");
      CHECKS.goesOn(x, "(f)|wc", 0, due + "/");
      Checks.run(x, "f&(f)&echo $(f&)");
      x.flush();
      for (int job = 0; job < 3; job++) {
        CHECKS.due("lines", x.job(job, 2), 2);
        CHECKS.due("front", x.front(job), 0);
        CHECKS.due("size", x.flush(), due);
      }
    }
  }

  /** Of what $( ) gives only 120 chars remain, but newlines at the end of its 200 tell. */
  private static void whatTheOutputKeeps() {
    JobshellQuay x = after("f(){test $# 0||{ echo >>g;echo >>g;shift;f $1 $2 $3 $4 $5;};}");
    for (int i = 0; i < 12; i++) {
      Checks.run(x, "f 1 2 3 4 5");
    }
    CHECKS.due("60 newlines", x.file(0, 59, false), '\n');
    for (int count : new int[] {77, 78, 79, 80}) {
      Checks.run(x, "a=" + Checks.chars(count));
      int due = count + 1 + 60 + 60 < 200 ? 120 : count;
      CHECKS.goesOn(x, "b=$(echo $a;cat<g;cat<g;echo y);echo ${#b}", 0, due + "/");
    }
  }
}
