/**
 * The bounds of promises 5 and 10 to 16 and of "Running", but for those of one whole run: a test
 * for each sentence, at its bound, one below it and one above it.
 */
final class RunEdgesTest {
  private static final Checks CHECKS = new Checks("RunEdgesTest");

  public static void main(String[] args) {
    nothingAtFirst();
    subshellsChangeNothing();
    andOrByTheStatus();
    pipesOfSeveral();
    subshellsTakeTheInput();
    noFunctionAndNoWhileAtFirst();
    partsOfTheirOwn();
    ifWithoutElse();
    whileWithoutDo();
    definingHasTheStatus0();
    orderOfACommand();
    emptiesAndAppends();
    whenWhatIsRunEnds();
    theLastOnesCount();
    namesOfFiles();
    atMost60Chars();
    atMost8Files();
    failingRedirections();
    withoutWords();
    assignmentsStay();
    echoAndTrue();
    catAndWc();
    testOfTwo();
    setAndShift();
    locals();
    rm();
    breaks();
    returns();
    exits();
    statusesBy256();
    functions();
    others();
    CHECKS.end();
  }

  private static JobshellQuay after(String... texts) {
    return Checks.after(texts);
  }

  private static void value(String text, char name, String due) {
    CHECKS.due("value after " + text, Checks.value(after(text), name), due);
  }

  // ---- shells

  private static void nothingAtFirst() {
    JobshellQuay x = new JobshellQuay();
    CHECKS.due("status", x.status(), 0);
    for (int name = 0; name < 26; name++) {
      CHECKS.due("value", x.value(name, 0), -2);
      CHECKS.due("value far behind", x.value(name, 500), -2);
    }
    CHECKS.goesOn(x, "echo $? $# $1$a${z} ${#a}", 0, "0 0 0/");
    CHECKS.goesOn(x, "a=;f", 127, "");
    CHECKS.due("an empty one is something", x.value(0, 0), -1);
  }

  private static void subshellsChangeNothing() {
    for (String[] around : new String[][] {{"(", ")"}, {"true|{", "}"}, {"{", "}|true"},
        {"b=$(", ")"}, {"{", "}&true"}}) {
      JobshellQuay x = after("a=1;set p;f(){echo old;}",
          around[0] + "a=2;set q r;shift;f(){echo new;};>g;" + around[1]);
      CHECKS.goesOn(x, "echo $a $1 $# *;f", 0, "1 p 1 g/old/");
    }
    CHECKS.runs("a=1;set p;f(){echo f;};false;(echo $a $1 $? $#;f)", 0, "1 p 1 1/f/");
    CHECKS.runs("false;echo $(echo $?)$(exit 3)$?", 0, "11/");
  }

  private static void andOrByTheStatus() {
    for (int status : new int[] {0, 1, 2, 126, 127, 255}) {
      String and = status == 0 ? "a/" : "";
      String or = status == 0 ? "" : "b/";
      CHECKS.runs("(exit " + status + ")&&echo a", status, and);
      CHECKS.runs("(exit " + status + ")||echo b", 0, or);
      CHECKS.runs("(exit " + status + ")&&echo a||echo b", 0, and + or);
      CHECKS.runs("if (exit " + status + ")then echo a;else echo b;fi", 0, and + or);
    }
    CHECKS.runs("false&&echo a&&echo b;echo $?", 0, "1/");
    CHECKS.runs("true||false||false;echo $?", 0, "0/");
    CHECKS.runs("true||echo a&&echo b||echo c", 0, "b/");
    CHECKS.runs("false&&echo a||false&&echo b||echo c", 0, "c/");
  }

  private static void pipesOfSeveral() {
    CHECKS.runs("a=1|true;echo x$a", 0, "x/");
    CHECKS.runs("a=1;echo $a", 0, "1/");
    CHECKS.runs("exit 3|true", 0, "");
    CHECKS.runs("true|exit 3;echo $?", 0, "3/");
    CHECKS.runs("exit 3|exit 4|exit 5;echo $?", 0, "5/");
    CHECKS.runs("echo a|cat|cat|wc", 0, "2/");
    CHECKS.runs("echo a>f|cat;cat<f", 0, "a/");
    CHECKS.runs("echo a>f|cat<f", 0, "a/");
    CHECKS.runs("true|cat|wc", 0, "0/");
    CHECKS.runs("false|echo $?;(false|echo $?)", 0, "0/0/");
  }

  private static void subshellsTakeTheInput() {
    CHECKS.runs("echo ab|{ (wc);wc;}", 0, "3/0/");
    CHECKS.runs("echo ab|{ true;(true);wc;}", 0, "3/");
    CHECKS.runs("f(){(cat);wc;};echo ab>g;f<g", 0, "ab/0/");
    CHECKS.runs("f(){cat|wc;wc;};echo ab>g;f<g", 0, "3/0/");
    CHECKS.runs("f(){true|wc;wc;};echo ab>g;f<g", 0, "0/3/");
    CHECKS.runs("f(){a=$(cat);echo x$a;wc;};echo ab>g;f<g", 0, "x/3/");
    CHECKS.runs("f(){cat&wc;};echo ab>g;f<g", 0, "3/");
    CHECKS.runs("f(){wc<g;wc;};echo ab>g;echo c>h;f<h", 0, "3/2/");
    CHECKS.runs("(exit 3);echo $?", 0, "3/");
    CHECKS.runs("exit 3;(echo a)", 3, "");
  }

  private static void noFunctionAndNoWhileAtFirst() {
    CHECKS.runs("f(){(return 3);echo $?;};f", 0, "1/");
    CHECKS.runs("f(){(local a);echo $?;};f", 0, "1/");
    CHECKS.runs("f(){return 3|return 4;echo $?;};f", 0, "1/");
    CHECKS.runs("f(){echo $(return 3;echo $?);};f", 0, "1/");
    CHECKS.runs("while true;do (break);echo $?;break;done", 0, "1/");
    CHECKS.runs("while true;do break|break;echo $?;break;done", 0, "1/");
    CHECKS.runs("while true;do echo $(break;echo $?);break;done", 0, "1/");
    CHECKS.runs("f(){ break;};while true;do f;echo $?;break;done", 0, "1/");
    CHECKS.runs("g(){echo $(f(){return 3;};f;echo $?);return 4;};g", 4, "3/");
    CHECKS.runs("while true;do (while true;do break;done;echo $?);break;done", 0, "0/");
    CHECKS.runs("set a;f(){(echo $1;set c;echo $1);echo $1;};f b", 0, "b/c/b/");
    CHECKS.runs("(while true;do exit;done);(break;echo $?)", 0, "1/");
    CHECKS.runs("f(){while true;do return;done;};f;g(){break;echo $?;};g", 0, "1/");
    CHECKS.runs("(f(){echo a;});(f);echo $(f)$?", 0, "127/");
    CHECKS.runs("(f(){echo a;};g(){echo b;});h(){echo c;};(f);(g);(h)", 0, "c/");
    CHECKS.runs("(set a b;c=d);(echo $#$c)", 0, "0/");
  }

  /** Lists that end without ; have no part in what follows them. */
  private static void partsOfTheirOwn() {
    CHECKS.due("jobs", after("if (false)then a&fi").jobs(), 0);
    CHECKS.due("jobs", after("if (true)then a&fi").jobs(), 1);
    CHECKS.due("jobs", after("if false;then {a}else (b)&c&fi").jobs(), 2);
    CHECKS.due("jobs", after("if true;then {a}else b&fi").jobs(), 0);
    CHECKS.due("jobs", after("while (false)do a&done").jobs(), 0);
    CHECKS.due("jobs", after("while {break}do a&done").jobs(), 0);
    CHECKS.due("jobs", after("while a&do test $b x&&break;b=x;done").jobs(), 2);
    CHECKS.runs("while echo a|cat;do test $b x&&break;b=x;done", 0, "a/a/");
    CHECKS.runs("if (echo a)then (echo b)else (echo c)fi", 0, "a/b/");
    CHECKS.runs("if {false}then (echo b)else {echo c}fi", 0, "c/");
    CHECKS.runs("if (true)then echo b|wc;fi|wc", 0, "2/");
  }

  private static void ifWithoutElse() {
    CHECKS.runs("if false;then echo a;fi", 0, "");
    CHECKS.runs("if false;then true;else exit 3;fi", 3, "");
    CHECKS.runs("if true;then false;fi", 1, "");
    CHECKS.runs("if true;then false;else echo a;fi", 1, "");
    CHECKS.runs("if false;true;then echo a;fi", 0, "a/");
    CHECKS.runs("if true;false;then echo a;fi", 0, "");
    CHECKS.runs("if false;then true;fi&&echo a", 0, "a/");
    CHECKS.runs("if x;then true;else echo $?;fi", 0, "127/");
    CHECKS.runs("if true;then echo $?;fi", 0, "0/");
  }

  private static void whileWithoutDo() {
    CHECKS.runs("while false;do echo a;done", 0, "");
    CHECKS.runs("false;while false;do true;done", 0, "");
    CHECKS.runs("while (exit 9)do true;done;echo $?", 0, "0/");
    CHECKS.runs("while test $a x;do a=;false;done", 0, "");
    CHECKS.runs("a=x;while test $a x;do a=;(exit 3);done", 3, "");
    CHECKS.runs("while test ${#a} 0||test ${#a} 1;do a=x$a;echo $a;(exit ${#a});done", 2, "x/xx/");
    CHECKS.runs("while true;do false;break;done", 0, "");
    CHECKS.runs("while true;do (exit 3)&&break||break;done", 0, "");
    CHECKS.runs("while false||break;do a;done;echo $?", 0, "0/");
    CHECKS.runs("a=x;while test $a x;do a=;(exit 3);done;while false;do x;done", 0, "");
    CHECKS.runs("a=x;while test $a x;do a=;(exit 3);done;while break;do x;done", 0, "");
    CHECKS.runs("a=0;while test $a 0;do a=1;while true;do break;done;(exit 4);done", 4, "");
    CHECKS.runs("a=0;while test $a 0;do a=1;(exit 4);while false;do x;done;done", 0, "");
  }

  private static void definingHasTheStatus0() {
    CHECKS.runs("false;f(){ false;}", 0, "");
    CHECKS.runs("f(){ false;}&&echo a", 0, "a/");
    CHECKS.runs("f(){echo 1;};f;f(){echo 2;};f", 0, "1/2/");
    CHECKS.runs("f(){f(){echo 2;};echo 1;};f;f;f", 0, "1/2/2/");
    CHECKS.runs("ff(){echo 2;};f(){echo 1;};fff(){echo 3;};f;ff;fff", 0, "1/2/3/");
    JobshellQuay x = new JobshellQuay();
    for (char c = 'a'; c <= 'z'; c++) {
      Checks.run(x, c + "(){echo " + c + "$1;}");
    }
    for (char c = 'a'; c <= 'z'; c++) {
      CHECKS.goesOn(x, c + " 1", 0, c + "1/");
    }
  }

  // ---- simple commands and their redirections

  private static void orderOfACommand() {
    CHECKS.runs("a=1;a=2 echo $a >$a;echo *;echo $a", 0, "1/2/");
    CHECKS.leaves("echo x>f;a=$(cat<f) echo y>f", 0, "f=y/ ");
    value("echo x>f;a=$(cat<f) echo y>f", 'a', "");
    CHECKS.leaves("echo x>f;echo $(cat<f) >f", 0, "f=x/ ");
    CHECKS.leaves("echo $(echo x>f)y>>f", 0, "f=x/y/ ");
    value("a=1 b=$a a=2 c=$a", 'b', "1");
    value("a=1 b=$a a=2 c=$a", 'c', "2");
    CHECKS.leaves("a=f;a=g echo >$a", 0, "f=/ ");
    CHECKS.leaves(">f >$(echo *)x", 0, "f= fx= ");
    CHECKS.runs("a=1 echo x$a;a=2 echo $a", 0, "x/1/");
  }

  private static void emptiesAndAppends() {
    CHECKS.leaves(">f", 0, "f= ");
    CHECKS.leaves(">>f", 0, "f= ");
    CHECKS.leaves("echo a>f;>f", 0, "f= ");
    CHECKS.leaves("echo a>f;>>f", 0, "f=a/ ");
    CHECKS.leaves("echo a>f;true>f", 0, "f= ");
    CHECKS.leaves("echo a>f;true>>f", 0, "f=a/ ");
    CHECKS.leaves("echo a>f;echo b>f", 0, "f=b/ ");
    CHECKS.leaves("echo a>f;echo b>>f", 0, "f=a/b/ ");
    CHECKS.leaves("echo a>>f;echo b>>f", 0, "f=a/b/ ");
    CHECKS.leaves("echo a>f;x>f", 127, "f= ");
    JobshellQuay x = after("a=" + Checks.chars(59));
    for (int i = 1; i <= 9; i++) {
      Checks.run(x, "echo $a>f;echo " + i + ">g;echo $a>>h;echo " + i + ">>i");
    }
    CHECKS.due("files", Checks.files(x), "f=" + Checks.chars(59) + "/ g=9/ h=" + Checks.chars(59)
        + "/ i=1/2/3/4/5/6/7/8/9/ ");
    Checks.run(x, "f(){echo $a>f;echo $a>f;echo $a>f;echo $a>f;echo b>f;echo c;}");
    CHECKS.due("status", Checks.run(x, "f>g"), 0);
    CHECKS.due("files", Checks.files(x), "f=b/ g=c/ h=" + Checks.chars(59)
        + "/ i=1/2/3/4/5/6/7/8/9/ ");
    CHECKS.runs("echo a>f;echo b", 0, "b/");
  }

  private static void whenWhatIsRunEnds() {
    CHECKS.leaves("f(){echo a;wc<g;};f>g", 0, "g=a/0/ ");
    CHECKS.leaves("f(){echo a;wc<g;};echo xy>g;f>>g", 0, "g=xy/a/3/ ");
    CHECKS.leaves("f(){echo a;return 3;};f>g", 3, "g=a/ ");
    CHECKS.leaves("f(){echo a;exit 3;};f>g", 3, "g=a/ ");
    CHECKS.leaves("f(){echo a;while true;do b;done;};f>g", 126, "g=a/ ");
    CHECKS.leaves("f(){echo a;while true;do b;done;};(f>>g)", 126, "g=a/ ");
    CHECKS.leaves("f(){echo a;h>i;};h(){echo b;f;};f>g", 126, "g=a/ i=b/b/a/b/a/b/a/b/a/b/a/ ");
    CHECKS.leaves("while true;do break>f;done", 0, "f= ");
    CHECKS.leaves("f(){return>h;};f", 0, "h= ");
    CHECKS.leaves("exit>f", 0, "f= ");
    CHECKS.leaves("rm f>f", 0, "f= ");
    CHECKS.leaves("echo a>f;rm f>>f", 0, "f= ");
    CHECKS.leaves("f(){echo a;rm g;};f>g;f>>g", 0, "g=a/ ");
    CHECKS.leaves("f(){rm g;>1;>2;>3;>4;>5;>6;>7;echo a;};f>g", 0, "1= 2= 3= 4= 5= 6= 7= g=a/ ");
    CHECKS.leaves("f(){rm g;>1;>2;>3;>4;>5;>6;>7;>8;echo a;};f>g", 0,
        "1= 2= 3= 4= 5= 6= 7= 8= ");
    CHECKS.leaves(">f >$(rm f)", 1, "");
    CHECKS.leaves("echo a>f>$(rm f)", 1, "");
    CHECKS.leaves("echo a>f>$(rm f;echo g)", 0, "g=a/ ");
    CHECKS.leaves("echo a>f<$(rm f;echo f)", 1, "");
  }

  private static void theLastOnesCount() {
    CHECKS.leaves("echo a>f>g", 0, "f= g=a/ ");
    CHECKS.leaves("echo a>f>>g", 0, "f= g=a/ ");
    CHECKS.leaves("echo a>>f>g", 0, "f= g=a/ ");
    CHECKS.leaves("echo x>f;echo y>g;echo a>>f>>g", 0, "f=x/ g=y/a/ ");
    CHECKS.leaves("echo x>f;echo a>f>>f", 0, "f=a/ ");
    CHECKS.leaves("echo x>f;echo a>>f>f", 0, "f=a/ ");
    CHECKS.runs("echo 1>f;echo 22>g;wc<f<g;wc<g<f;wc<f", 0, "3/2/2/");
    CHECKS.runs("echo 1>f;wc<g<f", 1, "");
    CHECKS.runs("echo 1>f;wc<f<g", 1, "");
    CHECKS.leaves("echo 1>f;cat<f>f", 0, "f=1/ ");
    CHECKS.leaves("echo 1>f;cat>f<f", 0, "f= ");
    CHECKS.leaves("echo 1>f;cat<f>>f", 0, "f=1/1/ ");
    CHECKS.leaves("f(){cat>>g;cat<g;};echo 1>g;f<g", 0, "g=1/1/ ");
  }

  private static void namesOfFiles() {
    for (String sign : new String[] {">", ">>"}) {
      CHECKS.leaves("echo a" + sign + "''", 1, "");
      CHECKS.leaves("echo a" + sign + "$n", 1, "");
      CHECKS.leaves("echo a" + sign + "1", 0, "1=a/ ");
      CHECKS.leaves("echo a" + sign + "1234567", 0, "1234567=a/ ");
      CHECKS.leaves("echo a" + sign + "12345678", 0, "12345678=a/ ");
      CHECKS.leaves("echo a" + sign + "123456789", 1, "");
      CHECKS.leaves("echo a" + sign + "1234567890123456", 1, "");
      CHECKS.leaves("echo a" + sign + "' '", 0, " =a/ ");
      CHECKS.leaves("echo a" + sign + "'1 2 3 4 '", 0, "1 2 3 4 =a/ ");
      CHECKS.leaves("echo a" + sign + "'1 2 3 4 5'", 1, "");
    }
    CHECKS.runs("echo a>12345678;cat<12345678", 0, "a/");
    CHECKS.runs("echo a>12345678;cat<123456789", 1, "");
    CHECKS.runs("echo a>12345678;cat<1234567", 1, "");
    CHECKS.runs("cat<''", 1, "");
    JobshellQuay x = after("echo a>abcdefgh;echo b>i");
    CHECKS.due("its last char", x.file(0, 7, true), 'h');
    CHECKS.due("none behind it", x.file(0, 8, true), -1);
    CHECKS.due("the next one", x.file(1, 0, true), 'i');
    CHECKS.due("none behind it", x.file(1, 1, true), -1);
  }

  private static void atMost60Chars() {
    for (int count : new int[] {58, 59, 60, 61, 115}) {
      String due = (Checks.chars(count) + "/").substring(0, Math.min(60, count + 1));
      JobshellQuay x = after("a=" + Checks.chars(count));
      CHECKS.due("status", Checks.run(x, "echo $a>f"), 0);
      CHECKS.due("a file of " + count, Checks.files(x), "f=" + due + " ");
      CHECKS.due("its last char", x.file(0, due.length() - 1, false) != -1 ? 1 : 0, 1);
      CHECKS.due("none behind it", x.file(0, due.length(), false), -1);
    }
    JobshellQuay y = after("a=" + Checks.chars(56), "echo $a>f");
    CHECKS.due("57", y.file(0, 57, false), -1);
    Checks.run(y, "echo b>>f");
    CHECKS.due("files", Checks.files(y), "f=" + Checks.chars(56) + "/b/ ");
    Checks.run(y, "echo c>>f");
    CHECKS.due("files", Checks.files(y), "f=" + Checks.chars(56) + "/b/c ");
    CHECKS.due("cut off is no fault", Checks.run(y, "echo d>>f"), 0);
    CHECKS.due("files", Checks.files(y), "f=" + Checks.chars(56) + "/b/c ");
    CHECKS.goesOn(y, "wc<f", 0, "60/");
  }

  private static void atMost8Files() {
    for (String sign : new String[] {">", ">>"}) {
      String seven = ">1;>2;>3;>4;>5;>6;>7";
      JobshellQuay x = after(seven);
      CHECKS.due("files", x.files(), 7);
      CHECKS.due("an eighth", Checks.run(x, "echo a" + sign + "8"), 0);
      CHECKS.due("files", x.files(), 8);
      CHECKS.due("a ninth", Checks.run(x, "echo a" + sign + "9"), 1);
      CHECKS.due("files", x.files(), 8);
      CHECKS.due("one that is there", Checks.run(x, "echo b" + sign + "7"), 0);
      CHECKS.goesOn(x, "cat<7;cat<8;cat<9||echo c", 0, "b/a/c/");
      CHECKS.due("a ninth among others", Checks.run(x, "echo d>1" + sign + "9>2"), 1);
      CHECKS.goesOn(x, "cat<1;cat<2", 0, "");
      CHECKS.due("room again", Checks.run(x, "rm 4;echo e" + sign + "9"), 0);
      CHECKS.due("files", Checks.files(x), "1= 2= 3= 5= 6= 7=b/ 8=a/ 9=e/ ");
    }
    JobshellQuay y = new JobshellQuay();
    for (int i = 0; i <= 8; i++) {
      CHECKS.due("files", y.files(), i);
      Checks.run(y, ">" + i);
    }
    CHECKS.due("files", y.files(), 8);
  }

  private static void failingRedirections() {
    for (String fails : new String[] {"<f", "<''", ">''", ">>''", ">123456789", ">>123456789"}) {
      CHECKS.runs("echo a " + fails, 1, "");
      CHECKS.runs("exit 3 " + fails + ";echo $?", 0, "1/");
      CHECKS.runs("a=1;a=2 " + fails + ";echo $? $a", 0, "1 1/");
      CHECKS.leaves(fails + " >g", 1, "");
      CHECKS.leaves(">g " + fails, 1, "g= ");
      CHECKS.runs("a=$(>g) true " + fails + ";echo $? *", 0, "1 */");
      CHECKS.runs("true $(>g) " + fails + ";echo $? *", 0, "1 g/");
    }
    CHECKS.runs("f(){echo a;};f<g", 1, "");
    CHECKS.runs("while true;do break<g;echo $?;break;done", 0, "1/");
  }

  private static void withoutWords() {
    CHECKS.runs("false;a=1", 0, "");
    CHECKS.runs("false;>f", 0, "");
    CHECKS.runs("false;$a", 0, "");
    CHECKS.runs("false;$a$b {,}", 0, "");
    CHECKS.runs("a=$(exit 3)", 3, "");
    CHECKS.runs("a=$(exit 3)$(true)", 0, "");
    CHECKS.runs("a=$(true)$(exit 3)", 3, "");
    CHECKS.runs("$(exit 3)", 3, "");
    CHECKS.runs("$(exit 3) a=$(exit 4)", 127, "");
    CHECKS.runs("a=$(exit 3) $(exit 4)", 3, "");
    CHECKS.runs("$(exit 4) >$(echo f;exit 5)", 5, "");
    CHECKS.runs("a=$(exit 3) >$(echo f;exit 5)", 3, "");
    CHECKS.runs("a=$(exit 3) >f", 3, "");
    CHECKS.runs("a=${b:-$(exit 3)}", 3, "");
    CHECKS.runs("a=${b:+$(exit 3)}", 0, "");
    CHECKS.runs("a=$(exit 255)", 255, "");
    CHECKS.runs("a=$(b=$(exit 3))", 3, "");
    CHECKS.runs("a=$(exit 3);a=1", 0, "");
    CHECKS.runs("a=$(exit 3)<f", 1, "");
    CHECKS.runs("echo $(exit 3)", 0, "/");
    CHECKS.runs("f(){ $a;};false;f", 0, "");
  }

  private static void assignmentsStay() {
    CHECKS.runs("a=1 true;echo $a", 0, "1/");
    CHECKS.runs("a=1 f;echo $? $a", 0, "127 1/");
    CHECKS.runs("f(){echo $a;a=2;};a=1 f;echo $a", 0, "1/2/");
    CHECKS.runs("a=1;a=;echo x$a", 0, "x/");
    CHECKS.runs("f(){a=1;};f;echo $a", 0, "1/");
    CHECKS.runs("f(){local a;echo x$a;};a=1 f;echo $a", 0, "x/1/");
    CHECKS.runs("f(){a=2 local a;echo x$a;};a=1;f;echo $a", 0, "x/2/");
  }

  // ---- tools

  private static void echoAndTrue() {
    CHECKS.runs("echo", 0, "/");
    CHECKS.runs("echo ''", 0, "/");
    CHECKS.runs("echo '' ''", 0, " /");
    CHECKS.runs("echo a", 0, "a/");
    CHECKS.runs("echo a b", 0, "a b/");
    CHECKS.runs("echo 'a  b'  c", 0, "a  b c/");
    CHECKS.runs("false;echo", 0, "/");
    CHECKS.runs("false;true", 0, "");
    CHECKS.runs("true;false", 1, "");
    CHECKS.runs("true a b;false c d", 1, "");
  }

  private static void catAndWc() {
    CHECKS.runs("cat", 0, "");
    CHECKS.runs("wc", 0, "0/");
    CHECKS.runs("false;cat", 0, "");
    CHECKS.runs("false;wc", 0, "0/");
    CHECKS.runs(">f;cat<f;wc<f", 0, "0/");
    CHECKS.runs("echo>f;cat<f;wc<f", 0, "/1/");
    CHECKS.runs("echo 12345678|wc", 0, "9/");
    CHECKS.runs("echo 123456789|wc", 0, "10/");
    CHECKS.runs("echo ab|{ cat;cat;wc;}", 0, "ab/0/");
    CHECKS.runs("echo ab|{ wc;wc;cat;}", 0, "3/0/");
    CHECKS.runs("echo ab|{ cat x y;}", 0, "ab/");
  }

  private static void testOfTwo() {
    CHECKS.runs("test", 1, "");
    CHECKS.runs("test a", 1, "");
    CHECKS.runs("test a a", 0, "");
    CHECKS.runs("test a a a", 1, "");
    CHECKS.runs("test '' ''", 0, "");
    CHECKS.runs("test ''", 1, "");
    CHECKS.runs("test a b", 1, "");
    CHECKS.runs("test a aa", 1, "");
    CHECKS.runs("test aa a", 1, "");
    CHECKS.runs("test ab ac", 1, "");
    CHECKS.runs("test '' a", 1, "");
    CHECKS.runs("test $a a", 1, "");
    CHECKS.runs("test \"$a\" ''", 0, "");
    CHECKS.runs("test 1 01", 1, "");
  }

  private static void setAndShift() {
    CHECKS.runs("set;echo $#", 0, "0/");
    CHECKS.runs("set a;echo $#$1", 0, "1a/");
    CHECKS.runs("set a b;set;echo $#$1", 0, "0/");
    CHECKS.runs("false;set a", 0, "");
    CHECKS.runs("shift", 1, "");
    CHECKS.runs("set a;shift", 0, "");
    CHECKS.runs("set a;shift;shift", 1, "");
    CHECKS.runs("set a b;shift;echo $#$1$2", 0, "1b/");
    CHECKS.runs("set a b c;shift 2;echo $#$1", 0, "2b/");
    CHECKS.runs("set 1 2 3 4 5 6 7 8 9 x;shift;echo $9", 0, "x/");
    CHECKS.runs("set a;f(){set b c;echo $#;shift;shift;shift;echo $?;};f;echo $#$1", 0,
        "2/1/1a/");
    CHECKS.runs("set a;f(){shift;echo $?;};f;echo $1", 0, "1/a/");
    CHECKS.runs("set a b;(shift;echo $1);echo $1", 0, "b/a/");
    CHECKS.goesOn(after("set a 'b c'"), "echo $# $2", 0, "2 b c/");
  }

  private static void locals() {
    CHECKS.runs("local", 1, "");
    CHECKS.runs("local a", 1, "");
    CHECKS.runs("a=1;local a;echo $a", 0, "1/");
    CHECKS.runs("f(){local;};f", 0, "");
    CHECKS.runs("f(){local a;};f", 0, "");
    CHECKS.runs("f(){local ab 1 '';};f", 0, "");
    CHECKS.runs("a=1;f(){local a;echo x$a;a=2;echo $a;};f;echo $a", 0, "x/2/1/");
    CHECKS.runs("a=1;z=2;f(){local z a;z=3 a=4;};f;echo $a$z", 0, "12/");
    CHECKS.runs("a=1;f(){local ab;a=2;};f;echo $a", 0, "2/");
    CHECKS.runs("a=1;f(){local a;g;echo $a;};g(){echo x$a;a=3;};f;echo $a", 0, "x/3/1/");
    CHECKS.runs("a=1;f(){local a;a=2;g;echo $a;};g(){local a;a=3;};f;echo $a", 0, "2/1/");
    CHECKS.runs("a=1;f(){local a;a=2;local a;echo x$a;};f;echo $a", 0, "x/1/");
    CHECKS.runs("a=1;f(){g(){local a;a=2;};g;};f;echo $a", 0, "1/");
    value("f(){local a;a=2;};f", 'a', "nothing");
    value("a=;f(){local a;a=2;};f", 'a', "");
    value("a=1;f(){local a;a=2;return;};f", 'a', "1");
    value("a=1;f(){local a;a=2;exit;};f", 'a', "1");
    value("a=1;f(){local a;a=2;while true;do x;done;};f", 'a', "1");
    value("a=1;f(){local a;a=2;f;};f", 'a', "1");
    value("a=1;f(){local $1;a=2;};f a", 'a', "1");
    value("f(){local a;};f", 'a', "nothing");
  }

  private static void rm() {
    CHECKS.runs("rm", 0, "");
    CHECKS.runs("rm f", 1, "");
    CHECKS.leaves(">f;rm f", 0, "");
    CHECKS.leaves(">f;>g;rm f g", 0, "");
    CHECKS.leaves(">f;>g;rm f h g", 1, "");
    CHECKS.leaves(">f;>g;rm h g", 1, "f= ");
    CHECKS.leaves(">f;rm f f", 1, "");
    CHECKS.leaves(">f;rm ''", 1, "f= ");
    CHECKS.leaves(">12345678;rm 123456789", 1, "12345678= ");
    CHECKS.leaves(">12345678;rm 1234567", 1, "12345678= ");
    CHECKS.leaves(">12345678;rm 12345678", 0, "");
    CHECKS.leaves(">f;>g;>fa;rm f*", 0, "g= ");
    CHECKS.leaves(">f;rm 'f*'", 1, "f= ");
    CHECKS.leaves("false;rm", 0, "");
  }

  private static void breaks() {
    CHECKS.runs("break", 1, "");
    CHECKS.runs("break;echo $?", 0, "1/");
    CHECKS.runs("while true;do break;echo a;done", 0, "");
    CHECKS.runs("while break;do echo a;done", 0, "");
    CHECKS.runs("while true;do while true;do break;done;echo a;break;done;echo b", 0, "a/b/");
    CHECKS.runs("while true;do while break;do x;done;echo $?;break;done", 0, "0/");
    CHECKS.runs("while while break;do a;done;do echo b;break;done", 0, "b/");
    CHECKS.runs("while true;do if true;then {break};fi;echo a;done", 0, "");
    CHECKS.runs("while true;do break;done;break", 1, "");
    CHECKS.runs("f(){while true;do break;done;break;echo $?;};f", 0, "1/");
    CHECKS.runs("f(){break;echo $?;};while true;do f;break;done", 0, "1/");
    CHECKS.runs("while true;do true&&break||echo a;done", 0, "");
    CHECKS.runs("while true;do break 2 x;done", 0, "");
  }

  private static void returns() {
    CHECKS.runs("return", 1, "");
    CHECKS.runs("return 0;echo $?", 0, "1/");
    CHECKS.runs("return 5;echo $?", 0, "1/");
    CHECKS.runs("f(){return;echo a;};f", 0, "");
    CHECKS.runs("f(){return 5;echo a;};f", 5, "");
    CHECKS.runs("f(){return 5 6;};f", 5, "");
    CHECKS.runs("f(){(exit 9);return;};f", 9, "");
    CHECKS.runs("f(){(exit 9);return x;};f", 9, "");
    CHECKS.runs("(exit 9);f(){ return;};f", 0, "");
    CHECKS.runs("f(){ return;};(exit 9);f", 9, "");
    CHECKS.runs("f(){g;echo $?;};g(){return 3;echo a;};f", 0, "3/");
    CHECKS.runs("f(){while true;do return 4;done;};f;break", 1, "");
    CHECKS.runs("f(){return $(echo 3);};f", 3, "");
    CHECKS.runs("f(){true;return $(false);};f", 0, "");
    CHECKS.runs("while true;do return 5;echo $?;break;done", 0, "1/");
  }

  private static void exits() {
    CHECKS.runs("exit;echo a", 0, "");
    CHECKS.runs("(exit 9);exit;echo a", 9, "");
    CHECKS.runs("exit 5;echo a", 5, "");
    CHECKS.runs("exit 5 6", 5, "");
    CHECKS.runs("(exit 5;echo a);echo $?", 0, "5/");
    CHECKS.runs("((exit 5;echo a);echo $?;exit 6);echo $?", 0, "5/6/");
    CHECKS.runs("f(){exit 5;echo a;};f;echo b", 5, "");
    CHECKS.runs("f(){g;echo a;};g(){exit 5;};(f;echo b);echo $?", 0, "5/");
    CHECKS.runs("echo $(exit 5;echo a)$?", 0, "0/");
    CHECKS.runs("exit 5|exit 6;echo $?", 0, "6/");
    CHECKS.runs("while true;do exit 5;done;echo a", 5, "");
    CHECKS.runs("abcd 5;exit", 127, "");
    CHECKS.runs("f(){abcdef 5;return;};f", 127, "");
    CHECKS.goesOn(after("exit 5"), "echo $?", 0, "5/");
  }

  private static void statusesBy256() {
    String[][] due = {{"0", "0"}, {"1", "1"}, {"254", "254"}, {"255", "255"}, {"256", "0"},
        {"257", "1"}, {"511", "255"}, {"512", "0"}, {"-0", "0"}, {"-1", "255"}, {"-255", "1"},
        {"-256", "0"}, {"-257", "255"}, {"007", "7"}, {"999999999", "255"}, {"-999999999", "1"},
        {"1000000000", "9"}, {"-1000000000", "9"}, {"1x", "9"}, {"-", "9"}, {"--1", "9"},
        {"+1", "9"}, {"''", "9"}, {"' 1'", "9"}, {"x", "9"}};
    for (String[] one : due) {
      int status = Integer.parseInt(one[1]);
      CHECKS.runs("(exit 9);exit " + one[0], status, "");
      CHECKS.runs("((exit 9);exit " + one[0] + ");echo $?", 0, status + "/");
      CHECKS.runs("f(){(exit 9);return " + one[0] + ";};f;echo $?", 0, status + "/");
    }
  }

  private static void functions() {
    CHECKS.runs("set a b;f(){echo $#$1;set c d e;echo $#$1;};f x;echo $#$1", 0, "1x/3c/2a/");
    CHECKS.runs("set a;f(){echo $#$1;};f;echo $#$1", 0, "0/1a/");
    CHECKS.runs("set a;f(){return;};f b c;echo $#$1", 0, "1a/");
    JobshellQuay x = after("set a;f(){exit;};f b c");
    CHECKS.goesOn(x, "echo $#$1", 0, "1a/");
    JobshellQuay y = after("set a;f(){while true;do x;done;};f b c");
    CHECKS.goesOn(y, "echo $#$1", 0, "1a/");
    for (String tool : new String[] {"echo", "true", "false", "cat", "wc", "test", "set", "shift",
        "local", "rm", "break", "return", "exit"}) {
      CHECKS.runs("a=" + tool + ";" + tool + "(){a=f$1;};" + tool + " x;'echo' $a", 0,
          tool.equals("echo") ? "" : "fx/");
      value(tool + "(){a=f$1;};" + tool + " x", 'a', "fx");
    }
    CHECKS.runs("f(){ false;};f", 1, "");
    CHECKS.runs("f(){echo a;};'f';\\f;a=f;$a;\"$a\"", 0, "a/a/a/a/");
  }

  private static void others() {
    for (String none : new String[] {"x", "ech", "echoo", "'echo '", "''", "1", "=", "'if'", "f",
        "*", ":", "echox", "fals", "ca", "w", "tes", "se", "shif", "loca", "r",
        "brea", "retur", "exi"}) {
      CHECKS.runs(none, 127, "");
      CHECKS.runs(none + " a b>f;echo $? *", 0, "127 f/");
    }
  }
}
