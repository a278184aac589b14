/** The bounds of a run, and of outputs: promises 5, 11 and 16. */
final class BoundsTest {
  private static final Checks CHECKS = new Checks("BoundsTest");

  public static void main(String[] args) {
    commands();
    levels();
    howAllEnds();
    outputs();
    CHECKS.end();
  }

  private static String times(String part, int count) {
    StringBuilder all = new StringBuilder();
    for (int i = 0; i < count; i++) {
      all.append(part);
    }
    return all.toString();
  }

  private static void commands() {
    CHECKS.runs(times("a;", 29) + "echo", 0, "/");
    CHECKS.runs(times("a;", 30) + "echo", 126, "");
    CHECKS.runs(times("a;", 28) + "f(){ b;};echo", 0, "/");
    CHECKS.runs(times("a;", 29) + "f(){ b;};echo", 126, "");
    CHECKS.runs(times("a;", 28) + "echo $(echo b)", 0, "b/");
    CHECKS.runs(times("a;", 29) + "echo $(echo b>f)", 126, "");
    CHECKS.leaves(times("a;", 29) + "echo $(echo b>f)", 126, "");
    CHECKS.leaves(times("a;", 30) + ">f", 126, "");
    CHECKS.leaves(times("a;", 29) + ">f", 0, "f= ");
    CHECKS.runs("while true;do echo;done", 126, times("/", 15));
    CHECKS.runs("f(){echo;f;};f|cat", 126, "");
    CHECKS.runs(times("a&&", 39) + "b", 127, "");
    JobshellQuay x = new JobshellQuay();
    CHECKS.goesOn(x, "while true;do true;done", 126, "");
    CHECKS.goesOn(x, times("a;", 29) + "echo $?", 0, "127/");
  }

  private static void levels() {
    CHECKS.runs(times("(", 12) + "echo a" + times(")", 12), 0, "a/");
    CHECKS.runs(times("(", 13) + "echo a" + times(")", 13), 126, "");
    CHECKS.runs(times("$(", 12) + "a" + times(")", 12), 127, "");
    CHECKS.runs(times("$(", 13) + "a" + times(")", 13), 126, "");
    CHECKS.runs("f(){echo a;f;};f", 126, times("a/", 12));
    CHECKS.runs("f(){if test $1 12;then echo a;else f $(($1+1));fi;};a=1;f 1", 126, "");
    CHECKS.runs("f(){if test $a $1;then echo b;else a=$((a+1));f $1;fi;};a=1;f 9", 0, "b/");
    CHECKS.runs(times("(", 11) + "echo a|cat" + times(")", 11), 0, "a/");
    CHECKS.runs(times("(", 12) + "echo a|cat" + times(")", 12), 126, "");
    CHECKS.runs(times("(", 12) + "a&" + times(")", 12), 126, "");
    CHECKS.runs(times("(", 11) + "echo $(echo b)" + times(")", 11), 0, "b/");
    CHECKS.runs(times("(", 12) + "echo $(echo b)" + times(")", 12), 126, "");
    CHECKS.runs("f(){echo a;};" + times("(", 12) + "f" + times(")", 12), 126, "");
    CHECKS.runs(times("{", 40) + "echo a" + times("}", 40), 0, "a/");
    CHECKS.runs(times("(", 12) + "a" + times(")", 12) + ";" + times("(", 12) + "echo b"
        + times(")", 12), 0, "b/");
  }

  private static void howAllEnds() {
    JobshellQuay x = new JobshellQuay();
    Checks.run(x, "a=1;set p q");
    Checks.run(x, "f(){local a;a=2;b=3;set r;g(){x;};echo c;while x||y||true;do z;done;}");
    CHECKS.due("run", Checks.run(x, "f s>h"), 126);
    CHECKS.due("a", Checks.value(x, 'a'), "1");
    CHECKS.due("b", Checks.value(x, 'b'), "3");
    CHECKS.due("files", Checks.files(x), "h=c/ ");
    CHECKS.goesOn(x, "echo $? $1 $#;g", 127, "126 p 2/");
    JobshellQuay y = new JobshellQuay();
    CHECKS.due("run", Checks.run(y, "a=1;(a=2;echo b;f(){x;};while true;do c;done);echo d"), 126);
    CHECKS.due("a", Checks.value(y, 'a'), "1");
    CHECKS.due("output", Checks.output(y), "b\n");
    CHECKS.goesOn(y, "f", 127, "");
    CHECKS.runs("while true;do a;done|cat;echo b", 126, "");
    CHECKS.runs("echo a;echo $(echo b;while true;do a;done)", 126, "a/");
    JobshellQuay z = new JobshellQuay();
    CHECKS.due("run", Checks.run(z, "(echo a;while true;do a;done)&echo b"), 126);
    CHECKS.due("jobs", z.jobs(), 0);
    CHECKS.goesOn(z, "break", 1, "");
    CHECKS.goesOn(z, "return", 1, "");
  }

  private static void outputs() {
    String ten = "1234567890";
    JobshellQuay x = new JobshellQuay();
    Checks.run(x, "a=" + times(ten, 10));
    CHECKS.goesOn(x, "echo $a;echo $a;echo $a;echo b", 0, times(times(ten, 10) + "/", 2)
        + times(ten, 9) + "12345678");
    CHECKS.due("size", x.size(), 300);
    CHECKS.goesOn(x, "(echo $a;echo $a;echo $a)|wc", 0, "200/");
    CHECKS.goesOn(x, "(echo $a;echo $a;echo $a)", 0, times(times(ten, 10) + "/", 2)
        + times(ten, 9) + "12345678");
    CHECKS.goesOn(x, "b=$(echo $a;echo $a);echo ${#b}", 0, "120/");
    CHECKS.goesOn(x, "f(){echo $a;echo $a;echo $a;};f>g;wc<g;cat<g", 0, "60/" + times(ten, 6));
    CHECKS.goesOn(x, "(echo $a;echo $a;echo $a)&", 0, "");
    CHECKS.due("lines", x.job(0, 2), 2);
    CHECKS.due("front", x.front(0), 0);
    CHECKS.due("size", x.size(), 200);
    CHECKS.due("run", Checks.run(x, "echo $a;echo b&"), 0);
    CHECKS.due("size", x.size(), 300);
    CHECKS.due("a line comes out into a full output", x.pass(1), 1);
    CHECKS.due("size", x.size(), 300);
    CHECKS.due("flush", x.flush(), 300);
    CHECKS.due("pass", x.pass(1), 0);
    CHECKS.due("size", x.size(), 0);
  }
}
