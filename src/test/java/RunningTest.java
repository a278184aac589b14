/** Promises 5, 10 to 16: run, and what it leaves: status, output, names and files. */
final class RunningTest {
  private static final Checks CHECKS = new Checks("RunningTest");

  public static void main(String[] args) {
    answers();
    lists();
    pipes();
    compounds();
    simple();
    functions();
    locals();
    redirections();
    endsOfRedirections();
    redirectionsWithoutWords();
    tools();
    ends();
    commandsInWords();
    questions();
    CHECKS.end();
  }

  private static void answers() {
    JobshellQuay x = new JobshellQuay();
    CHECKS.thrown("run of nothing", IllegalStateException.class, () -> x.run());
    CHECKS.due("run", Checks.run(x, "false"), 1);
    CHECKS.due("the text is empty", x.clear(), 0);
    CHECKS.due("status", x.status(), 1);
    Checks.type(x, "true;;");
    CHECKS.thrown("run of no list", IllegalStateException.class, () -> x.run());
    CHECKS.due("status after that", x.status(), 1);
    CHECKS.due("the text after that", x.clear(), 6);
    CHECKS.goesOn(x, "a=1;echo $?", 0, "0/");
    CHECKS.goesOn(x, "echo $a", 0, "1/");
  }

  private static void lists() {
    CHECKS.runs("echo a;echo b", 0, "a/b/");
    CHECKS.runs("true&&echo a;false&&echo b", 1, "a/");
    CHECKS.runs("true||echo a;false||echo b", 0, "b/");
    CHECKS.runs("false&&echo a||echo b", 0, "b/");
    CHECKS.runs("true||echo a&&echo b", 0, "b/");
    CHECKS.runs("false||false||x||echo $?", 0, "127/");
    CHECKS.runs("false&&true&&echo a;echo $?", 0, "1/");
    CHECKS.runs("{ echo a;false; }&&echo b||{ echo c; }", 0, "a/c/");
    CHECKS.runs("{a=1;echo $a;};echo $a", 0, "1/1/");
  }

  private static void pipes() {
    CHECKS.runs("echo hi|cat", 0, "hi/");
    CHECKS.runs("{ echo a;echo b;}|wc", 0, "4/");
    CHECKS.runs("'echo' a|\"cat\";a=echo;$a bc|$d>f|wc", 0, "a/0/");
    CHECKS.runs("(echo a;echo b)|wc", 0, "4/");
    CHECKS.runs("if true;then echo a;fi|while true;do cat;wc;break;done", 0, "a/0/");
    CHECKS.runs("f(){ a;}|echo b;f", 127, "b/");
    CHECKS.runs("echo hi|cat|wc", 0, "3/");
    CHECKS.runs("echo a|false;echo $?;false|true;echo $?", 0, "1/0/");
    CHECKS.runs("a=1|a=2;echo x$a", 0, "x/");
    CHECKS.runs("false;echo a|echo $?", 0, "1/");
    CHECKS.runs("echo a|exit 5;echo $?", 0, "5/");
    CHECKS.runs("exit 5|echo a", 0, "a/");
    CHECKS.runs("echo ab|(cat;cat;wc);wc", 0, "ab/0/0/");
    CHECKS.runs("echo ab|{ wc;cat;}", 0, "3/");
    CHECKS.runs("echo ab|(cat|wc;wc)", 0, "3/0/");
    CHECKS.runs("echo a|(echo b;cat)|wc", 0, "4/");
    CHECKS.runs("f(){cat;echo $1;};echo a|f b|wc", 0, "4/");
    CHECKS.runs("cat;wc", 0, "0/");
    CHECKS.runs("echo a|while true;do cat;break;done", 0, "a/");
    CHECKS.runs("while true;do echo a|break;echo $?;break;done", 0, "1/");
  }

  private static void compounds() {
    CHECKS.runs("if true;then echo a;fi", 0, "a/");
    CHECKS.runs("if false;then echo a;fi;echo $?", 0, "0/");
    CHECKS.runs("if false;then echo a;else echo b $?;false;fi", 1, "b 1/");
    CHECKS.runs("if true;then false;else true;fi", 1, "");
    CHECKS.runs("if false;true;then if false;then x;else echo b;fi;fi", 0, "b/");
    CHECKS.runs("false;if x;then y;fi", 0, "");
    CHECKS.runs("a=;while test ${#a} 0||test ${#a} 1;do a=x$a;echo $a;done", 0, "x/xx/");
    CHECKS.runs("false;while false;do x;done", 0, "");
    CHECKS.runs("a=0;while test $a 0;do a=1;false;done", 1, "");
    CHECKS.runs("while true;do false;break;done", 0, "");
    CHECKS.runs("while true;do echo $?;break;done", 0, "0/");
    CHECKS.runs("while break;do echo a;done;echo $?", 0, "0/");
    CHECKS.runs("while true;do while true;do break;done;echo a;break;echo b;done", 0, "a/");
    CHECKS.runs("while true;do if true;then break;fi;done;break", 1, "");
    CHECKS.runs("while true;do (break;echo $?);break;done", 0, "1/");
    CHECKS.runs("while true;do echo $(break;echo $?);break;done", 0, "1/");
    CHECKS.runs("a=1;(a=2;echo $a;exit 4);echo $? $a", 0, "2/4 1/");
    CHECKS.runs("false;(echo $?)", 0, "1/");
    CHECKS.runs("(f(){echo a;};f);f", 127, "a/");
    CHECKS.runs("set a b;(shift;echo $1;set);echo $#", 0, "b/2/");
  }

  private static void simple() {
    CHECKS.runs("a=1 echo x$a;echo $a", 0, "x/1/");
    CHECKS.runs("a=1 b=$a c=$b;echo $a$b$c", 0, "111/");
    CHECKS.runs("a=b=c;echo $a", 0, "b=c/");
    CHECKS.runs("a='p  q' b=$a;echo $b \"$b\"", 0, "p q p  q/");
    CHECKS.runs("echo a a=1 $a", 0, "a a=1/");
    CHECKS.runs("ab=1", 127, "");
    CHECKS.runs(">f;a=*;echo \"$a\"", 0, "*/");
    CHECKS.runs("false;a=1", 0, "");
    CHECKS.runs("a=$(exit 3)", 3, "");
    CHECKS.runs("a=$(exit 3)$(exit 4) b=x", 4, "");
    CHECKS.runs("a=$(exit 3);a=${a:+$(true)}", 0, "");
    CHECKS.runs("false;$a", 0, "");
    CHECKS.runs("$(false)", 1, "");
    CHECKS.runs("''", 127, "");
    CHECKS.runs("x y", 127, "");
    CHECKS.runs("a=echo;$a b", 0, "b/");
    CHECKS.runs("e\\cho 'a'\"b\"", 0, "ab/");
    CHECKS.runs(">f {echo,a}{,b};cat<f", 0, "echob a ab/");
    CHECKS.runs(">f echo {a,b}{,c};cat<f", 0, "a ac b bc/");
  }

  private static void functions() {
    CHECKS.runs("f(){echo $1 $2 $#;};f a 'b c' d;echo $#", 0, "a b c 3/0/");
    CHECKS.runs("set x y;f(){echo $1;shift;set p q r;echo $#;};f a;echo $1$#", 0, "a/3/x2/");
    CHECKS.runs("f(){echo a;};f(){echo b;};f", 0, "b/");
    CHECKS.runs("false;f(){a;};echo $?", 0, "0/");
    CHECKS.runs("echo(){true;};echo a", 0, "");
    CHECKS.runs("f(){return 7;echo a;};f;echo $?", 0, "7/");
    CHECKS.runs("f(){false;return;};f", 1, "");
    CHECKS.runs("f(){false;return x;};f", 1, "");
    CHECKS.runs("f(){return -1;};f", 255, "");
    CHECKS.runs("f(){return 256;};f", 0, "");
    CHECKS.runs("f(){return 999999999;};f", 255, "");
    CHECKS.runs("f(){false;return 1234567890;};f", 1, "");
    CHECKS.runs("f(){return 3|return 4;echo $?;(return 5);};f", 1, "1/");
    CHECKS.runs("return 5", 1, "");
    CHECKS.runs("f(){while true;do return 3;done;};f", 3, "");
    CHECKS.runs("f(){break;};while true;do f;echo $?;break;done", 0, "1/");
    CHECKS.runs("f(){a=1;g(){echo b;};};f;g;echo $a", 0, "b/1/");
    CHECKS.runs("f(){echo $?;};false;f", 0, "1/");
    CHECKS.runs("f(){f(){echo b;};echo a;};f;f", 0, "a/b/");
    CHECKS.runs("ab(){echo $1;};a(){echo x;};ab c;abc", 127, "c/");
    CHECKS.runs("abc(){echo 1;};abd(){echo 2;};abc(){echo 3;};bbd(){ x;};abd;abc", 0, "2/3/");
    JobshellQuay x = new JobshellQuay();
    CHECKS.goesOn(x, "f(){echo $a;}", 0, "");
    CHECKS.goesOn(x, "a=1;f", 0, "1/");
    CHECKS.goesOn(x, "f|cat", 0, "1/");
  }

  private static void locals() {
    CHECKS.runs("a=1;f(){local a;echo x$a;a=2;g;};g(){echo $a;a=3;};f;echo $a", 0, "x/2/1/");
    CHECKS.runs("f(){local a b;a=1 b=2;};f;echo x$a$b", 0, "x/");
    CHECKS.runs("local a", 1, "");
    CHECKS.runs("f(){(local a);echo $?;};f", 0, "1/");
    CHECKS.runs("a=1;f(){local a a;a=2;local a;echo x$a;};f;echo $a", 0, "x/1/");
    CHECKS.runs("f(){local ab 1 $1;echo $?;};a=1;f a;echo $a", 0, "0/1/");
    CHECKS.runs("f(){local ab 1 '';echo $a;};a=1;f", 0, "1/");
    CHECKS.runs("a=1;f(){local a;a=2;return 3;};f;echo $? $a", 0, "3 1/");
    CHECKS.runs("a=1;f(){local a;a=2;(echo $a;a=3);echo $a;};f", 0, "2/2/");
    CHECKS.runs("a=1;f(){local a;a=$1;if test $1 x;then f y;echo $a;fi;};f x;echo $a", 0, "x/1/");
    JobshellQuay x = new JobshellQuay();
    Checks.run(x, "a=1;f(){local a b;a=2 b=3;exit 4;};f;echo z");
    CHECKS.due("status", x.status(), 4);
    CHECKS.due("a", Checks.value(x, 'a'), "1");
    CHECKS.due("b", Checks.value(x, 'b'), "nothing");
  }

  private static void redirections() {
    CHECKS.leaves("echo a>f;echo b>f;echo c>>f;echo d>>g", 0, "f=b/c/ g=d/ ");
    CHECKS.leaves("echo a>f;>f;>>g", 0, "f= g= ");
    CHECKS.leaves("echo a >g >f >>h;echo b>>g >>h", 0, "f= g= h=a/b/ ");
    CHECKS.leaves("echo a>f;cat<f>>f;cat<f>g", 0, "f=a/a/ g=a/a/ ");
    CHECKS.leaves("echo a>f;cat<f>f", 0, "f=a/ ");
    CHECKS.leaves("echo a>f;cat >f <f", 0, "f= ");
    CHECKS.leaves("echo a>f;echo b>g;cat<f<g>h", 0, "f=a/ g=b/ h=b/ ");
    CHECKS.leaves("cat<f", 1, "");
    CHECKS.leaves("echo a>f <g;echo b>>h", 0, "f= h=b/ ");
    CHECKS.leaves("echo a<g>f", 1, "");
    CHECKS.leaves("cat<f&&>g", 1, "");
    CHECKS.leaves("cat<f||>g", 0, "g= ");
    CHECKS.leaves("a=$(>g) cat<f|>h", 0, "h= ");
    CHECKS.leaves("echo a>f;a=1 echo b>>f <g", 1, "f=a/ ");
    CHECKS.leaves("echo a>''", 1, "");
    CHECKS.leaves("echo a>$b", 1, "");
    CHECKS.leaves("echo a>abcdefgh;echo b>abcdefghi", 1, "abcdefgh=a/ ");
    CHECKS.leaves("b='x y';echo a>$b;echo c>'*'", 0, "*=c/ x y=a/ ");
    CHECKS.leaves(">f1;echo a>f*", 0, "f*=a/ f1= ");
    CHECKS.leaves(">c;>a;>b;>ab;>aa", 0, "a= aa= ab= b= c= ");
    CHECKS.leaves("echo 1>a;echo 2>b;echo 3>c;rm a;echo 4>d;echo 5>aa;rm c;echo 6>c;echo 7>>d", 0,
        "aa=5/ b=2/ c=6/ d=4/7/ ");
    CHECKS.leaves(">1;>2;>3;>4;>5;>6;>7;>8;echo a>1;echo b>9", 1,
        "1=a/ 2= 3= 4= 5= 6= 7= 8= ");
    CHECKS.leaves(">1;>2;>3;>4;>5;>6;>7;>8;echo a>9||echo b>>8;echo c>>9", 1,
        "1= 2= 3= 4= 5= 6= 7= 8=b/ ");
    CHECKS.leaves("a=12345678901234567890123456789;echo $a$a$a>f;echo b>>f", 0,
        "f=123456789012345678901234567891234567890123456789012345678912 ");
    CHECKS.leaves("a=1 >$a", 1, "");
    CHECKS.leaves("a=f >g b=$a >$(echo h)", 0, "g= h= ");
    CHECKS.runs("echo a>f;wc<f;cat<f", 0, "2/a/");
    CHECKS.runs("echo abc>f;(cat;wc)|wc;f(){wc;wc;};f<f", 0, "2/4/0/");
    CHECKS.runs("echo a>f;echo b|cat<f", 0, "a/");
  }

  private static void endsOfRedirections() {
    CHECKS.leaves("f(){echo a;cat<g;echo b;};f>g", 0, "g=a/b/ ");
    CHECKS.leaves("f(){echo a;rm g;echo b;};f>g", 0, "g=a/b/ ");
    CHECKS.leaves("f(){echo a;rm g;};echo x>g;f>>g", 0, "g=a/ ");
    CHECKS.leaves("f(){echo a;echo b>>g;};echo x>g;f>>g", 0, "g=x/b/a/ ");
    CHECKS.leaves("g(){echo b>>y;};g>y", 0, "y=b/ ");
    CHECKS.leaves("g(){echo b>>y;echo a;};echo x>y;g>y", 0, "y=b/a/ ");
    CHECKS.leaves("g(){echo a;echo b>y;echo c;};g>y", 0, "y=b/a/c/ ");
    CHECKS.leaves("g(){echo b>>y;cat<y;>y;};g>y", 0, "y=b/ ");
    CHECKS.leaves("g(){echo a;echo b>>y;rm y;};g>y", 0, "y=a/ ");
    CHECKS.leaves("g(){echo b>>y;};g>y;g>y;g>>y", 0, "y=b/b/ ");
    CHECKS.leaves("g(){echo b;h>y;echo c;};h(){echo d;echo e>>y;};g>y", 0, "y=e/d/b/c/ ");
    CHECKS.leaves("g(){echo a;echo b>>y;exit 2;};(g>y);echo c>>y", 0, "y=b/a/c/ ");
    CHECKS.leaves("g(){echo a;echo b>>y;while true;do a;done;};g>y", 126, "y=b/a/ ");
    CHECKS.leaves("g(){a=12345678901234567890123456789;echo $a$a>>y;echo b;};g>y", 0,
        "y=1234567890123456789012345678912345678901234567890123456789/b ");
    CHECKS.leaves("(echo a>>y;echo b)|cat>y", 0, "y=b/ ");
    CHECKS.leaves("f(){echo a;return 3;};f>g", 3, "g=a/ ");
    CHECKS.leaves("f(){echo a;exit 3;};f>g;echo b", 3, "g=a/ ");
    CHECKS.leaves("f(){echo a;h>>i;};h(){echo b;exit;};f>g", 0, "g=a/ i=b/ ");
    CHECKS.leaves("f(){echo a;(echo b;exit 2);echo c;};f>g", 0, "g=a/b/c/ ");
    CHECKS.leaves("f(){echo a;f;};f>g", 126, "g=a/a/a/a/a/a/a/a/a/a/a/a/ ");
    CHECKS.leaves("f(){rm g;>1;>2;>3;>4;>5;>6;>7;>8;echo a;};f>g", 0,
        "1= 2= 3= 4= 5= 6= 7= 8= ");
    CHECKS.leaves("f(){echo a;};f>g<h", 1, "g= ");
    CHECKS.leaves("rm f>f", 0, "f= ");
    CHECKS.leaves("exit 3>f", 3, "f= ");
    CHECKS.leaves("while true;do break>f;done", 0, "f= ");
  }

  private static void redirectionsWithoutWords() {
    CHECKS.leaves("a=$(echo b>y)>y", 0, "y=b/ ");
    CHECKS.leaves("a=$(echo b>y)>>y", 0, "y=b/ ");
    CHECKS.leaves("echo c>y;a=$(echo b>>y)>y", 0, "y=b/ ");
    CHECKS.leaves("echo c>y;a=$(echo b>>y)>>y", 0, "y=c/b/ ");
    CHECKS.leaves("a=$(rm y)>y", 0, "");
    CHECKS.leaves("echo c>y;a=$(rm y)>>y", 0, "");
    CHECKS.leaves(">y >$(echo b>>y;echo z)", 0, "y=b/ z= ");
    CHECKS.leaves("a=$(rm y)>y;echo b>>y", 0, "y=b/ ");
    CHECKS.leaves("a=$(rm y)>y true", 0, "y= ");
    CHECKS.leaves("a=$(echo b>y)>y echo c", 0, "y=b/c/ ");
    CHECKS.leaves("a=$(rm y;false)>y", 1, "");
    CHECKS.leaves("f(){a=$(rm y)>y;};f>z", 0, "z= ");
    CHECKS.runs("a=$(echo b>y)>y;echo c;cat<y", 0, "c/b/");
  }

  private static void tools() {
    CHECKS.runs("echo;echo a  b 'c  d' ''", 0, "/a b c  d /");
    CHECKS.runs("true a;echo $?;false a;echo $?", 0, "0/1/");
    CHECKS.runs("test a a", 0, "");
    CHECKS.runs("test a b", 1, "");
    CHECKS.runs("test a", 1, "");
    CHECKS.runs("test a a a", 1, "");
    CHECKS.runs("test", 1, "");
    CHECKS.runs("set a;shift;echo $? $#;shift;echo $?", 0, "0 0/1/");
    CHECKS.runs("test '' \"$a\"", 0, "");
    CHECKS.runs("test ab abc", 1, "");
    CHECKS.runs("set a 'b c';echo $# $2;set;echo $#", 0, "2 b c/0/");
    CHECKS.runs("set a b;shift x;echo $1 $? $#;shift;shift;echo $?", 0, "b 0 1/1/");
    CHECKS.runs(">f;>g;rm f h g;echo $?;rm;echo $? *", 0, "1/0 */");
    CHECKS.runs(">f;rm f f", 1, "");
    CHECKS.runs(">f;>g;rm *;echo $? *", 0, "0 */");
    CHECKS.runs("rm abcdefghi ''", 1, "");
    CHECKS.runs(">abcdefgh;rm abcdefghi;echo *", 0, "abcdefgh/");
    CHECKS.runs("break", 1, "");
    CHECKS.runs("echo abc|wc x", 0, "4/");
    CHECKS.runs("set 1 2 3 4 5 6 7 8 9 a b c d e f g;echo $# $9 $10", 0, "15 9 10/");
    CHECKS.runs("ech a", 127, "");
    CHECKS.runs("xcho a;echo $?;mat;zest a a;qet b;echo $? $#", 0, "127/127 0/");
    CHECKS.runs("echos a", 127, "");
  }

  private static void ends() {
    CHECKS.runs("exit 3;echo a", 3, "");
    CHECKS.runs("false;exit", 1, "");
    CHECKS.runs("false;exit x", 1, "");
    CHECKS.runs("exit -2", 254, "");
    CHECKS.runs("exit 300 4", 44, "");
    CHECKS.runs("(exit 3;echo a);echo $?", 0, "3/");
    CHECKS.runs("echo $(exit 3;echo a)b $?", 0, "b 0/");
    CHECKS.runs("f(){g;echo a;};g(){exit 5;};f;echo b", 5, "");
    CHECKS.runs("f(){(g;echo a);echo $?;};g(){exit 5;};f", 0, "5/");
    CHECKS.runs("while true;do if true;then exit 2;fi;done;echo a", 2, "");
    JobshellQuay x = new JobshellQuay();
    CHECKS.goesOn(x, "set a b;f(){set c;while true;do exit 2;done;};f", 2, "");
    CHECKS.goesOn(x, "echo $? $1 $#;break", 1, "2 a 2/");
  }

  private static void commandsInWords() {
    CHECKS.runs("echo x$(echo a  b;echo c)y", 0, "xa b cy/");
    CHECKS.runs("echo \"$(echo a;echo;echo b;echo;echo)\"c", 0, "a//bc/");
    CHECKS.runs("a=1;echo $(a=2;echo $a)$a", 0, "21/");
    CHECKS.runs("false;echo $(true)$?$(echo $?)", 0, "11/");
    CHECKS.runs("echo a|echo b$(cat)", 0, "b/");
    CHECKS.runs("echo a|true;echo b$(cat)", 0, "b/");
    CHECKS.runs("a=$(exit 3);b=1", 0, "");
    CHECKS.runs("echo $(echo $(echo $(echo a)))", 0, "a/");
    CHECKS.runs("echo {$(echo a b),c}d", 0, "a bd cd/");
    CHECKS.runs("echo * $(>f) *", 0, "* f/");
    CHECKS.runs("a=$(echo a b);echo \"$a\"", 0, "a b/");
    CHECKS.runs("echo ${a:-$(echo b)} ${a:+$(>f)} *", 0, "b */");
    CHECKS.runs("set a b;echo $(echo $2;shift;echo $1)$1", 0, "b ba/");
    CHECKS.runs("f(){echo $1$(echo $1);};f a", 0, "aa/");
    CHECKS.runs("echo $(echo 'a*')", 0, "a*/");
  }

  private static void questions() {
    JobshellQuay x = new JobshellQuay();
    Checks.run(x, "a=xy;b=;echo 12;echo f>g;>h");
    CHECKS.due("value", x.value(0, 0), 'x');
    CHECKS.due("value", x.value(0, 1), 'y');
    CHECKS.due("value", x.value(0, 2), -1);
    CHECKS.due("value of an empty one", x.value(1, 0), -1);
    CHECKS.due("value of nothing", x.value(2, 0), -2);
    CHECKS.due("value of nothing further on", x.value(25, 9), -2);
    CHECKS.thrown("value", IndexOutOfBoundsException.class, () -> x.value(-1, 0));
    CHECKS.thrown("value", IndexOutOfBoundsException.class, () -> x.value(26, 0));
    CHECKS.thrown("value", IndexOutOfBoundsException.class, () -> x.value(0, -1));
    CHECKS.thrown("value", IndexOutOfBoundsException.class, () -> x.value(2, -1));
    CHECKS.due("size", x.size(), 3);
    CHECKS.due("charAt", x.charAt(2), '\n');
    CHECKS.thrown("charAt", IndexOutOfBoundsException.class, () -> x.charAt(3));
    CHECKS.thrown("charAt", IndexOutOfBoundsException.class, () -> x.charAt(-1));
    CHECKS.due("files", x.files(), 2);
    CHECKS.due("file", x.file(0, 0, true), 'g');
    CHECKS.due("file", x.file(0, 1, true), -1);
    CHECKS.due("file", x.file(0, 0, false), 'f');
    CHECKS.due("file", x.file(0, 2, false), -1);
    CHECKS.due("file", x.file(1, 0, false), -1);
    CHECKS.thrown("file", IndexOutOfBoundsException.class, () -> x.file(2, 0, true));
    CHECKS.thrown("file", IndexOutOfBoundsException.class, () -> x.file(-1, 0, true));
    CHECKS.thrown("file", IndexOutOfBoundsException.class, () -> x.file(0, -1, false));
    CHECKS.due("flush", x.flush(), 3);
    CHECKS.due("size", x.size(), 0);
    CHECKS.thrown("charAt", IndexOutOfBoundsException.class, () -> x.charAt(0));
    CHECKS.due("flush", x.flush(), 0);
  }
}
