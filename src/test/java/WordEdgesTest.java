/**
 * The bounds of promises 19 to 21 and of "Words": a test for each sentence, at its bound, one
 * below it and one above it; also of words as commands expand them.
 */
final class WordEdgesTest {
  private static final Checks CHECKS = new Checks("WordEdgesTest");
  private static final int NONE = JobshellQuay.NONE;

  public static void main(String[] args) {
    rowsOrNone();
    fieldsAndPlaces();
    eachQuestionReadsTheText();
    firstChoicesFirst();
    eightWordsByOne();
    wordsEachByItself();
    namesAndParameters();
    countsAndLengths();
    orAndAnd();
    commandsWithoutNewlines();
    cutAtBlanksAndNewlines();
    emptyIsGoneUnlessQuoted();
    patterns();
    patternsInOrder();
    charsOfWords();
    charsOfRedirectionsAndAssignments();
    whatComesBehindIsGone();
    commandsBehindStillRun();
    sixteenFields();
    withoutFieldsAndPatterns();
    sumsOfDigits();
    sumsOfNames();
    sumsInOrder();
    sumsOverflow();
    noSuchSums();
    rowsKeepToTheBounds();
    CHECKS.end();
  }

  private static JobshellQuay after(String... texts) {
    return Checks.after(texts);
  }

  private static String chars(int count) {
    return Checks.chars(count);
  }

  private static String[] each(String... fields) {
    return fields;
  }

  // ---- rows

  private static void rowsOrNone() {
    JobshellQuay x = new JobshellQuay();
    CHECKS.gives(x, "");
    CHECKS.gives(x, " ");
    CHECKS.gives(x, "a", "a");
    CHECKS.gives(x, "if then fi do done while else", "if", "then", "fi", "do", "done", "while",
        "else");
    CHECKS.gives(x, "a=1 b= c={d,e}", "a=1", "b=", "c=d", "c=e");
    CHECKS.gives(x, "{a,b} x", "a", "b", "x");
    CHECKS.gives(x, "$a $1 ''", "");
    CHECKS.gives(x, "f\\(\\)", "f()");
    for (String none : new String[] {";", "a;", "a ;", "a&", "a|b", "a&&b", "(a)", "a)", "f()", ">",
        "a>b", "<a", "{ a", "{", "{}", "{a}", "a }", "}", "$", "$0", "'", "\"", "\\", "${", "${a",
        "${a:-{b,c}}", "$((", "$((1)", "$(a)", "$()", "$(", "\"$(a)\"", "{$(a),b}", "{b,\"$(a)\"}",
        "${a:-$(b)}", "${a:+$(b)}", "\"${a:-$(b)}\"", "a=$(b)", "x $(y) z",
        "{,${a:-${b:+$(c)}}}"}) {
      CHECKS.noRow(none);
    }
    CHECKS.gives(x, "'$(a)' \\$\\(a\\) $((1))", "$(a)", "$(a)", "1");
  }

  private static void fieldsAndPlaces() {
    JobshellQuay x = new JobshellQuay();
    Checks.type(x, "a '' bcd");
    int[][] due = {{0, 0, 'a'}, {0, 1, NONE}, {1, 0, NONE}, {1, 1, NONE}, {2, 0, 'b'}, {2, 2, 'd'},
        {2, 3, NONE}, {3, 0, NONE}, {16, 0, NONE}, {0, Integer.MAX_VALUE, NONE},
        {Integer.MAX_VALUE, 0, NONE}};
    for (int[] one : due) {
      CHECKS.due("fieldAt " + one[0] + " " + one[1], x.fieldAt(one[0], one[1]), one[2]);
      CHECKS.due("fieldAnew " + one[0] + " " + one[1], x.fieldAnew(one[0], one[1]), one[2]);
    }
    CHECKS.due("fields", x.fields(), 3);
    CHECKS.due("the text is as it was", x.clear(), 8);
  }

  /** No question rests on one asked before it. */
  private static void eachQuestionReadsTheText() {
    for (String[] one : new String[][] {{"if", "i"}, {"a", "a"}, {"{b,c}", "b"}, {"f\\(", "f"},
        {"a;b", ""}, {"$(a)", ""}, {"(", ""}}) {
      int due = one[1].isEmpty() ? NONE : one[1].charAt(0);
      for (String before : new String[] {"", "x", ";", "(a)", "'"}) {
        for (int way = 0; way < 4; way++) {
          JobshellQuay x = new JobshellQuay();
          Checks.type(x, before);
          x.fault();
          x.fields();
          x.clear();
          Checks.type(x, one[0]);
          if (way > 1) {
            x.fault();
          }
          int got = way % 2 == 0 ? x.fieldAnew(0, 0) : x.fieldAt(0, 0);
          CHECKS.due("a char of " + one[0], got, due);
        }
      }
    }
    JobshellQuay y = new JobshellQuay();
    Checks.type(y, "$a");
    CHECKS.due("fieldAnew", y.fieldAnew(0, 0), NONE);
    y.clear();
    Checks.run(y, "a=b");
    Checks.type(y, "$a");
    CHECKS.due("fieldAnew of what the name is by now", y.fieldAnew(0, 0), 'b');
    CHECKS.due("fieldAt of what the name is by now", y.fieldAt(0, 0), 'b');
  }

  // ---- choices

  private static void firstChoicesFirst() {
    JobshellQuay x = after("a='p q'");
    CHECKS.gives(x, "{a,b}{1,2}", "a1", "a2", "b1", "b2");
    CHECKS.gives(x, "w{a,b}x{1,2}y", "wax1y", "wax2y", "wbx1y", "wbx2y");
    CHECKS.gives(x, "{{a,b},c}{1,2}", "a1", "a2", "b1", "b2", "c1", "c2");
    CHECKS.gives(x, "{a{1,2},b}", "a1", "a2", "b");
    CHECKS.gives(x, "{$a,b}{1,2}", "p", "q1", "p", "q2", "b1", "b2");
  }

  private static void eightWordsByOne() {
    JobshellQuay x = new JobshellQuay();
    CHECKS.gives(x, "{1,2,3,4,5,6,7}", "1", "2", "3", "4", "5", "6", "7");
    CHECKS.gives(x, "{1,2,3,4,5,6,7,8}", "1", "2", "3", "4", "5", "6", "7", "8");
    CHECKS.gives(x, "{1,2,3,4,5,6,7,8,9}", "1", "2", "3", "4", "5", "6", "7", "8");
    CHECKS.gives(x, "{1,2,3,4,5,6,7,{8,9}}", "1", "2", "3", "4", "5", "6", "7", "8");
    CHECKS.gives(x, "{{1,2,3,4,5,6,7,8,9},x}", "1", "2", "3", "4", "5", "6", "7", "8");
    CHECKS.gives(x, "{1,2,3,4}{a,b}", "1a", "1b", "2a", "2b", "3a", "3b", "4a", "4b");
    CHECKS.gives(x, "{1,2,3}{a,b,c}", "1a", "1b", "1c", "2a", "2b", "2c", "3a", "3b");
    CHECKS.gives(x, "{1,2}{a,b}{x,y}", "1ax", "1ay", "1bx", "1by", "2ax", "2ay", "2bx", "2by");
    CHECKS.gives(x, "{a,b}{1,2}{x,y}{z,}", "a1xz", "a1x", "a1yz", "a1y", "a2xz", "a2x", "a2yz",
        "a2y");
    CHECKS.gives(x, "{1,2,3,4,5,6,7,8,9} {a,b} c", "1", "2", "3", "4", "5", "6", "7", "8", "a", "b",
        "c");
    CHECKS.gives(x, "{,,,,,,,,9}");
    CHECKS.gives(x, "{,,,,,,,8,9}", "8");
    CHECKS.gives(x, "{'','','','','','','','',9}", "", "", "", "", "", "", "", "");
    CHECKS.runs("echo {,,,,,,,$(>f),$(>g)} {,$(>h)};echo *", 0, "/f h/");
  }

  private static void wordsEachByItself() {
    CHECKS.runs("echo * $(>f) *", 0, "* f/");
    CHECKS.runs("echo {*,$(>f),*}", 0, "* f/");
    CHECKS.runs("echo $(>f)*", 0, "f/");
    CHECKS.runs("echo $(>f;>g)* $(rm f)*", 0, "f g g/");
  }

  // ---- $ things

  private static void namesAndParameters() {
    JobshellQuay x = after("a=;b=x;z=y");
    CHECKS.gives(x, "$a$b$z$c", "xy");
    CHECKS.gives(x, "$a $c \"$a\" \"$c\"", "", "");
    CHECKS.gives(x, "$1 $9 \"$1\" $#", "", "0");
    CHECKS.gives(after("set p"), "$1 $2 \"$2\" $#", "p", "", "1");
    CHECKS.gives(after("set 1 2 3 4 5 6 7 8"), "$8 $9 \"$9\" $#", "8", "", "8");
    CHECKS.gives(after("set 1 2 3 4 5 6 7 8 i"), "$8 $9 $10 $#", "8", "i", "10", "9");
    CHECKS.gives(after("set 1 2 3 4 5 6 7 8 i j"), "$9 $10 $#", "i", "10", "10");
    CHECKS.gives(after("set p ''"), "$2 \"$2\" $#", "", "2");
  }

  private static void countsAndLengths() {
    JobshellQuay x = after("a=" + chars(118), "b=" + chars(60) + ";c=$b$b;d=1;e=");
    CHECKS.gives(x, "${#a} ${#c} ${#d} ${#e} ${#f}", "118", "120", "1", "0", "0");
    CHECKS.gives(x, "$? $#", "0", "0");
    CHECKS.gives(after("exit 255"), "$?", "255");
    CHECKS.gives(after("a"), "$? \"$?\"", "127", "127");
    CHECKS.gives(after("set 1 2 3 4 5 6 7 8 9 a b c d e f"), "$#", "15");
    CHECKS.gives(after("set 1 2 3 4 5 6 7 8 9 a b c d e f g"), "$#", "15");
  }

  private static void orAndAnd() {
    JobshellQuay x = after("a=;b=1;c=' '");
    CHECKS.gives(x, "${n:-x} ${a:-x} ${b:-x}", "x", "x", "1");
    CHECKS.gives(x, "${n:+x} ${a:+x} ${b:+x}", "x");
    CHECKS.gives(x, "\"${c:-x}\" ${c:+x}", " ", "x");
    CHECKS.gives(x, "${n:-} ${b:+} \"${n:-}\" \"${b:+}\"", "", "");
    CHECKS.gives(x, "${n:-''} ${b:+''} ${a:+''} ${b:-''}", "", "", "1");
    CHECKS.gives(x, "\"${n:+x}\" ${n:+'x'}", "");
    CHECKS.gives(x, "${n:-'x y'} \"${n:-'x y'}\" ${n:-x\\ y}", "x y", "x y", "x y");
    CHECKS.gives(x, "${n:-${a:-${b:+y}}}", "y");
    CHECKS.gives(x, "\"${n:-${a:-'x  y'}z}\" ${n:-\"${a:-$c}\"$c}", "x  yz", " ");
    CHECKS.gives(x, "\"${n:-\"x\"$c'y'}$c\"$c ${n:-${n:-\"$c\"}$c}x", "x y ", " ", "x");
    CHECKS.gives(x, "${n:-$b$b} ${b:+$n} ${b:+\"$n\"}", "11", "");
    CHECKS.runs("echo ${a:-$(>f)}${a:+$(>g)};echo *", 0, "/f/");
    CHECKS.runs("a=1;echo ${a:-$(>f)}${a:+$(>g)};echo *", 0, "1/g/");
  }

  private static void commandsWithoutNewlines() {
    CHECKS.runs("echo \"$(true)\"x", 0, "x/");
    CHECKS.runs("echo \"$(echo)\"x", 0, "x/");
    CHECKS.runs("echo \"$(echo;echo;echo)\"x", 0, "x/");
    CHECKS.runs("echo \"$(echo a)\"x", 0, "ax/");
    CHECKS.runs("echo \"$(echo a;echo;echo)\"x", 0, "ax/");
    CHECKS.runs("echo \"$(echo;echo a)\"x", 0, "/ax/");
    CHECKS.runs("echo \"$(echo a;echo;echo b)\"x", 0, "a//bx/");
    CHECKS.runs("echo \"$(echo 'a ';echo)\"x", 0, "a x/");
    CHECKS.runs("echo a>f;echo \"$(cat<f;cat<f)\"x", 0, "a/ax/");
    CHECKS.runs("echo a|echo $(wc)", 0, "0/");
    CHECKS.runs("f(){echo $(wc)$(cat);};echo a>g;f<g", 0, "0/");
  }

  // ---- fields

  private static void cutAtBlanksAndNewlines() {
    JobshellQuay x = after("a='p q';b=$(echo r;echo s);c=' t ';d='  '");
    CHECKS.gives(x, "$a", "p", "q");
    CHECKS.gives(x, "$b", "r", "s");
    CHECKS.gives(x, "\"$a\" \"$b\"", "p q", "r\ns");
    CHECKS.gives(x, "p\\ q 'p q' \"p q\"", "p q", "p q", "p q");
    CHECKS.gives(x, "x$a$a", "xp", "qp", "q");
    CHECKS.gives(x, "$c x${c}y", "t", "x", "t", "y");
    CHECKS.gives(x, "x$d x${d}y \"x${d}y\"", "x", "x", "y", "x  y");
    CHECKS.gives(x, "${n:-$a} ${n:-\"$a\"} \"${n:-$a}\"", "p", "q", "p q", "p q");
    CHECKS.gives(after("set 'p q'"), "$1 \"$1\"", "p", "q", "p q");
    CHECKS.runs("set $(echo a b;echo c) \"$(echo a b;echo c)\";echo $#", 0, "4/");
  }

  private static void emptyIsGoneUnlessQuoted() {
    JobshellQuay x = after("a=;b=' '");
    CHECKS.gives(x, "$a $b $a$b {,}");
    CHECKS.gives(x, "''", "");
    CHECKS.gives(x, "\"\"", "");
    CHECKS.gives(x, "\"$a\"", "");
    CHECKS.gives(x, "$a''", "");
    CHECKS.gives(x, "$b''", "");
    CHECKS.gives(x, "''$b", "");
    CHECKS.gives(x, "''$b''", "", "");
    CHECKS.gives(x, "$b''$b''$b", "", "");
    CHECKS.gives(x, "$b\"$a\"$b", "");
    CHECKS.gives(x, "{'',} {\"\",\"\"}", "", "", "");
    CHECKS.gives(x, "\"${a:+x}\" ${a:+'x'} ${a:-''}", "", "");
    CHECKS.runs("set \"$(true)\" $(true) $(echo) \"$(echo)\";echo $#", 0, "2/");
    CHECKS.runs("$a '' x", 127, "");
    CHECKS.runs("$a echo x", 0, "x/");
  }

  // ---- patterns

  private static void patterns() {
    JobshellQuay none = new JobshellQuay();
    CHECKS.gives(none, "* ? a*", "*", "?", "a*");
    JobshellQuay x = after(">a;>ab;>abc;>b;>'*'");
    CHECKS.gives(x, "a*", "a", "ab", "abc");
    CHECKS.gives(x, "a?", "ab");
    CHECKS.gives(x, "a??", "abc");
    CHECKS.gives(x, "a???", "a???");
    CHECKS.gives(x, "?", "*", "a", "b");
    CHECKS.gives(x, "a*?", "ab", "abc");
    CHECKS.gives(x, "a**c a*bc *a*b*c*", "abc", "abc", "abc");
    CHECKS.gives(x, "abc* *abc ab*c", "abc", "abc", "abc");
    CHECKS.gives(x, "abcd* b?", "abcd*", "b?");
    CHECKS.gives(x, "'*' \\* \"*\" '?'", "*", "*", "*", "?");
    CHECKS.gives(x, "a'*' a\\? 'a'* \"a\"?", "a*", "a?", "a", "ab", "abc", "ab");
    CHECKS.gives(x, "\\** *\\*", "*", "*");
    JobshellQuay y = after(">a;>ab;p='a*';q='a b*'");
    CHECKS.gives(y, "$p \"$p\" ${n:-a*} ${n:-'a*'}", "a", "ab", "a*", "a", "ab", "a*");
    CHECKS.gives(y, "$q", "a", "b*");
    CHECKS.gives(y, "x$p {$p,c*}", "xa*", "a", "ab", "c*");
    CHECKS.runs(">a;>ab;echo $(echo a*) \"$(echo 'a*')\" $(echo 'a*')", 0, "a ab a* a ab/");
    CHECKS.runs(">echo;* a", 0, "a/");
  }

  private static void patternsInOrder() {
    JobshellQuay x = after(">b;>a;>1;>ab;>'a b';>:;>0", ">'?'");
    CHECKS.gives(x, "*", "0", "1", ":", "?", "a", "a b", "ab", "b");
    CHECKS.gives(x, "a?* ab* a\\ *", "a b", "ab", "ab", "a b");
    Checks.run(x, "rm a 0;>aa");
    CHECKS.gives(x, "*", "1", ":", "?", "a b", "aa", "ab", "b");
  }

  // ---- 120 chars

  private static void charsOfWords() {
    JobshellQuay x = after("a=" + chars(60), "b=$a;c=" + chars(59));
    CHECKS.gives(x, "$a$c", chars(60) + chars(59));
    CHECKS.gives(x, "$a$b", chars(60) + chars(60));
    CHECKS.gives(x, "$a${b}x", chars(60) + chars(60));
    CHECKS.gives(x, "$a $c x", chars(60), chars(59), "x");
    CHECKS.gives(x, "$a $b x", chars(60), chars(60));
    CHECKS.gives(x, "$a ${c}xy", chars(60), chars(59) + "x");
    CHECKS.gives(x, "'$'$c\"$a\"\\xy", "$" + chars(59) + chars(60));
    CHECKS.gives(x, "x{$c,$b}y", "x" + chars(59) + "y", "x" + chars(58));
    CHECKS.gives(x, "$a $c ${#a}", chars(60), chars(59), "6");
    CHECKS.gives(x, "$a $c $((5+5))", chars(60), chars(59), "1");
    CHECKS.gives(x, "$a $c ${n:-xy}", chars(60), chars(59), "x");
    CHECKS.gives(x, "$a $b $a", chars(60), chars(60));
    JobshellQuay y = after("a=' " + chars(58) + " '", "b=$a");
    CHECKS.gives(y, "$a $b xyz", chars(58), chars(58));
    CHECKS.gives(after("a=' " + chars(57) + " '", "b=$a"), "$a$b xyz", chars(57), chars(57), "xy");
    CHECKS.goesOn(x, "echo $a ${c:+" + chars(53) + "}12", 0, chars(60) + " " + chars(53) + "12/");
    CHECKS.goesOn(x, "echo $a ${c:+" + chars(54) + "}12", 0, chars(60) + " " + chars(54) + "12/");
    CHECKS.goesOn(x, "echo $a ${c:+" + chars(55) + "}12", 0, chars(60) + " " + chars(55) + "1/");
    CHECKS.goesOn(x, "echo $a$a x", 0, chars(60) + chars(56) + "/");
  }

  private static void charsOfRedirectionsAndAssignments() {
    JobshellQuay x = after("a=" + chars(60), "b=" + chars(54));
    CHECKS.due("a name with its last room", Checks.run(x, "echo $a$b>fg"), 0);
    CHECKS.due("files", Checks.files(x), "fg=" + chars(60) + " ");
    CHECKS.due("a name that loses a char", Checks.run(x, "echo x$a$b>fg"), 0);
    CHECKS.due("a name that is gone", Checks.run(x, "echo xy$a$b>fg"), 1);
    CHECKS.due("a name that is gone", Checks.run(x, "echo xyz$a$b>fg"), 1);
    CHECKS.due("files", Checks.files(x), "f=x" + chars(59) + " fg=" + chars(60) + " ");
    CHECKS.due("words are first", Checks.run(x, "c=123 echo $a$b>g"), 0);
    CHECKS.due("c", Checks.value(x, 'c'), "1");
    CHECKS.due("redirections next", Checks.run(x, "c=123 echo $a${b}>gh"), 0);
    CHECKS.due("c", Checks.value(x, 'c'), "");
    CHECKS.due("without words", Checks.run(x, "c=$a d=$a e=1"), 0);
    CHECKS.due("d", Checks.value(x, 'd'), chars(60));
    CHECKS.due("e", Checks.value(x, 'e'), "");
    CHECKS.due("one below", Checks.run(x, "c=$a d=${b}12345 e=1 f=2"), 0);
    CHECKS.due("e", Checks.value(x, 'e'), "1");
    CHECKS.due("f", Checks.value(x, 'f'), "");
    CHECKS.due("one name", Checks.run(x, "c=$a$a;d=$a${a}x"), 0);
    CHECKS.due("c", Checks.value(x, 'c'), chars(60) + chars(60));
    CHECKS.due("d", Checks.value(x, 'd'), chars(60) + chars(60));
    CHECKS.due("each command anew", Checks.run(x, "true $a $a x;g=y"), 0);
    CHECKS.due("g", Checks.value(x, 'g'), "y");
  }

  private static void whatComesBehindIsGone() {
    JobshellQuay x = after("a=" + chars(60), "f(){echo $#;}");
    CHECKS.gives(x, "$a$a x y", chars(60) + chars(60));
    CHECKS.gives(x, "$a$a ''", chars(60) + chars(60), "");
    CHECKS.gives(x, "$a$a 'x' y z\"q\" \\w", chars(60) + chars(60), "", "", "");
    CHECKS.gives(x, "$a$a \"$a\" $a {x,'y'}", chars(60) + chars(60), "", "");
    CHECKS.gives(x, "$a${a}''x * '*'", chars(60) + chars(60), "");
    CHECKS.goesOn(x, "f $a$a 'x' y", 0, "2/");
    CHECKS.goesOn(x, "f $a$a x y", 0, "1/");
    CHECKS.goesOn(x, "f $a ${a:+" + chars(58) + "}x", 0, "2/");
  }

  private static void commandsBehindStillRun() {
    JobshellQuay x = after("a=" + chars(60), "true $a$a $(>f) x$(>g)y");
    CHECKS.due("files", Checks.files(x), "f= g= ");
    CHECKS.due("status", Checks.run(x, "b=$a$a c=$(>h;exit 3)"), 3);
    CHECKS.due("c", Checks.value(x, 'c'), "");
    CHECKS.due("files", x.files(), 3);
    CHECKS.due("status", Checks.run(x, "true $a$a \"$(>i)\"${b:-$(>j)}${b:+$(>k)}"), 0);
    CHECKS.due("files", Checks.files(x), "f= g= h= i= k= ");
    CHECKS.goesOn(x, "set $a$a \"$(echo b)\";echo $# \"$2\"", 0, "2 /");
  }

  // ---- 16 fields

  private static void sixteenFields() {
    String[] letters = "a b c d e f g h i j k l m n o p".split(" ");
    JobshellQuay x = new JobshellQuay();
    CHECKS.gives(x, "a b c d e f g h i j k l m n o", "abcdefghijklmno".split(""));
    CHECKS.gives(x, "a b c d e f g h i j k l m n o p", letters);
    CHECKS.gives(x, "a b c d e f g h i j k l m n o p q", letters);
    CHECKS.gives(x, "a b c d e f g h i j k l m n o p q 'r' {s,t}", letters);
    CHECKS.gives(after("a='a b c d e f g h i j k l m n o p q r'"), "$a s", letters);
    CHECKS.gives(x, "a b c d e f g h {i,j,k,l,m,n,o,p} q", letters);
    JobshellQuay y = after(">1;>2;>3;>4;>5;>6;>7;>8");
    CHECKS.gives(y, "* a *", each("1", "2", "3", "4", "5", "6", "7", "8", "a", "1", "2", "3", "4",
        "5", "6", "7"));
    CHECKS.gives(y, "* *", each("1", "2", "3", "4", "5", "6", "7", "8", "1", "2", "3", "4",
        "5", "6", "7", "8"));
    CHECKS.gives(y, "* * *", each("1", "2", "3", "4", "5", "6", "7", "8", "1", "2", "3", "4",
        "5", "6", "7", "8"));
    JobshellQuay z = after("f(){echo $#;}");
    CHECKS.goesOn(z, "f 1 2 3 4 5 6 7 8 9 0 1 2 3 4", 0, "14/");
    CHECKS.goesOn(z, "f 1 2 3 4 5 6 7 8 9 0 1 2 3 4 5", 0, "15/");
    CHECKS.goesOn(z, "f 1 2 3 4 5 6 7 8 9 0 1 2 3 4 5 6", 0, "15/");
    CHECKS.goesOn(z, "f 1 2 3 4 5 6 7 8 9 0 1 2 3 4 5 $(>g);echo *", 0, "15/g/");
    CHECKS.goesOn(z, "echo 1 2 3 4 5 6 7 8 9 0 1 2 3 4 x y", 0, "1 2 3 4 5 6 7 8 9 0 1 2 3 4 x/");
  }

  private static void rowsKeepToTheBounds() {
    JobshellQuay x = after("a=" + chars(100) + ";>f;>g");
    CHECKS.gives(x, "$a 12345678901234567 * x", chars(100), "12345678901234567", "f", "g", "x");
    CHECKS.gives(x, "$a 123456789012345678 * x", chars(100), "123456789012345678", "f", "g", "x");
    CHECKS.gives(x, "$a 1234567890123456789 * x", chars(100), "1234567890123456789", "f", "g");
    CHECKS.gives(x, "$a 12345678901234567890 * x", chars(100), "12345678901234567890");
  }

  private static void withoutFieldsAndPatterns() {
    JobshellQuay x = after(">f;>g;a='p  q';b=$a;c=* d=f?;e=$c;i=$(echo r;echo s)");
    CHECKS.due("b", Checks.value(x, 'b'), "p  q");
    CHECKS.due("c", Checks.value(x, 'c'), "*");
    CHECKS.due("d", Checks.value(x, 'd'), "f?");
    CHECKS.due("e", Checks.value(x, 'e'), "*");
    CHECKS.due("i", Checks.value(x, 'i'), "r\ns");
    CHECKS.due("j", Checks.value(after("a='p q' j=$a\"$a\"'x'\\y$n"), 'j'), "p qp qxy");
    JobshellQuay y = after("a=' f g ';>$a;>*;>?b;>$n''x");
    CHECKS.due("files", Checks.files(y), " f g = *= ?b= x= ");
  }

  // ---- sums

  private static void sumsOfDigits() {
    JobshellQuay x = new JobshellQuay();
    CHECKS.gives(x, "$((0)) $((1)) $((12)) $((007))", "0", "1", "12", "7");
    CHECKS.gives(x, "$((12345678)) $((123456789)) $((1234567890))", "12345678", "123456789", "0");
    CHECKS.gives(x, "$((000000001)) $((0000000001))", "1", "0");
    CHECKS.gives(x, "$((1+1234567890)) $((1234567890*0+1))", "0", "0");
  }

  private static void sumsOfNames() {
    JobshellQuay x = after("a=7;b=-7;c=123456789;d=-123456789;e=1234567890;f=-1234567890",
        "g=;h=-;i=--1;j=1-;k=+1;l=' 1';m=x;n=1x;o=-0;p=000000012");
    CHECKS.gives(x, "$((a)) $((b)) $((c)) $((d)) $((e)) $((f))", "7", "-7", "123456789",
        "-123456789", "0", "0");
    CHECKS.gives(x, "$((g)) $((h)) $((i)) $((j)) $((k)) $((l))", "0", "0", "0", "0", "0", "0");
    CHECKS.gives(x, "$((m)) $((n)) $((o)) $((p)) $((q)) $((z))", "0", "0", "0", "12", "0", "0");
    CHECKS.gives(x, "$((m+1)) $((e+1)) $((b*b)) $((1-b)) $((b-1))", "1", "1", "49", "8", "-8");
  }

  private static void sumsInOrder() {
    JobshellQuay x = after("a=3");
    CHECKS.gives(x, "$((1-2-3)) $((1-2+3)) $((2*3*4))", "-4", "2", "24");
    CHECKS.gives(x, "$((1-1)) $((1-2)) $((1-3)) $((1-11)) $((9+1)) $((99+1))", "0", "-1", "-2",
        "-10", "10", "100");
    CHECKS.gives(x, "$((1+2*3)) $((2*3+1)) $((1-2*3)) $((2*3-4*5+6))", "7", "7", "-5", "-8");
    CHECKS.gives(x, "$((a*a-a+1)) $((1 + a)) $((1  *  a))", "7", "4", "3");
    CHECKS.gives(x, "$((1+1+1+1+1+1+1+1+1+1))", "10");
  }

  private static void sumsOverflow() {
    JobshellQuay x = after("a=2147483647;b=65536;c=-65536");
    CHECKS.gives(x, "$((b*32767+65535)) $((b*32767+65536)) $((b*32767+65537))", "2147483647",
        "-2147483648", "-2147483647");
    CHECKS.gives(x, "$((c*32768)) $((c*32768-1)) $((c*32768+1))", "-2147483648", "2147483647",
        "-2147483647");
    CHECKS.gives(x, "$((b*b)) $((b*b+1)) $((b*32768*2)) $((0-b*32768))", "0", "1", "0",
        "-2147483648");
    CHECKS.gives(x, "$((999999999+999999999)) $((999999999*3))", "1999999998", "-1294967299");
    CHECKS.gives(x, "$((a))", "0");
  }

  private static void noSuchSums() {
    JobshellQuay x = after("a=1;b=2");
    for (String none : new String[] {"", " ", "+", "-", "*", "1+", "+1", "-1", "*1", "1-", "1*",
        "1++1", "1--1", "1**1", "1+-1", "1 1", "a b", "ab", "a1", "1a", "1,1", "1=1", "$a", "#",
        "'1'", "\"1\"", "1;1", "?", "1:1", "\\1", "1&1", "1|1", "1>0", "{a}", "1+ +1",
        "1 + a b"}) {
      CHECKS.gives(x, "x$((" + none + "))y", "x0y");
    }
  }
}
