/**
 * The document from its first line to its last: each sentence stands as a comment ahead of calls
 * that would answer otherwise if it did not hold. The other tests go to the bounds of each.
 */
final class DocTest {
  private static final Checks CHECKS = new Checks("DocTest");
  private static final int NONE = JobshellQuay.NONE;
  private static final String SIGNS = " ;&|(){}$'\"\\><=*?+-,#:";

  public static void main(String[] args) {
    whatItIs();
    typedChars();
    lists();
    commands();
    toldWords();
    assignmentsAndRedirections();
    words();
    quotes();
    choices();
    things();
    faults();
    expansionInItsOrder();
    dollarThings();
    fieldsAndPatterns();
    room();
    sums();
    shells();
    listsRun();
    pipesAndSubshells();
    conditionsAndLoops();
    simpleCommands();
    files();
    withoutWords();
    toolsForTexts();
    toolsForNames();
    endings();
    functions();
    runsThatEndAll();
    outputs();
    jobsAtOnce();
    jobsLater();
    exceptions();
    promises1To5();
    promises6To9();
    promises10To13();
    promises14To18();
    promises19To21();
    CHECKS.end();
  }

  private static JobshellQuay after(String... texts) {
    return Checks.after(texts);
  }

  private static void fits(String... texts) {
    for (String text : texts) {
      CHECKS.faultAt(text, NONE);
    }
  }

  private static void value(JobshellQuay shell, char name, String due) {
    CHECKS.due("value of " + name, Checks.value(shell, name), due);
  }

  private static void output(JobshellQuay shell, String due) {
    CHECKS.due("output", Checks.output(shell), due.replace('/', '\n'));
    shell.flush();
  }

  private static void is(JobshellQuay shell, int job, int what, int status, int lines) {
    CHECKS.due("what job " + job + " is", shell.job(job, 0), what);
    CHECKS.due("its status", shell.job(job, 1), status);
    CHECKS.due("its lines", shell.job(job, 2), lines);
  }

  // ---- What it is

  private static void whatItIs() {
    // "words with quotes, expansions in their order (choices, names, sums, commands, fields,
    // patterns)"
    CHECKS.runs("a='x y';>f;echo {1,2}$a$((3*4))$(echo z) \"$a\" f*", 0,
        "1x y12z 2x y12z x y f/");
    // "lists, pipelines, groups and subshells, conditions and loops"
    CHECKS.runs("{ echo a;(echo b)}|if true;then while cat;do break;done;fi", 0, "a/b/");
    // "functions with locals that those called see, redirections to files"
    CHECKS.runs("g(){echo $a;};f(){local a;a=1;g>h;};a=0;f;g;cat<h", 0, "0/1/");
    // "bounds, jobs behind whose lines come out one by one"
    JobshellQuay x = after("(echo a;echo b)&");
    CHECKS.due("pass", x.pass(1), 1);
    output(x, "a/");
    // "words rewritten char by char"
    Checks.type(x, "{b,c}");
    CHECKS.due("anew", Checks.fieldAnew(x, 0) + Checks.fieldAnew(x, 1), "bc");
    // "An object is used for at most 512 calls after it has been made"
    JobshellQuay y = new JobshellQuay();
    for (int call = 1; call <= 511; call++) {
      CHECKS.due("a call", y.status(), 0);
    }
    CHECKS.due("the 512th", y.type('a'), 1);
  }

  // ---- Text

  private static void typedChars() {
    // "A text is typed, of at most 120 chars: a to z, 0 to 9, blanks, and ; & | ( ) { } $ ' " \ >
    // < = * ? + - , # :."
    int may = 0;
    for (int c = 0; c <= 65535; c++) {
      boolean good = c >= 'a' && c <= 'z' || c >= '0' && c <= '9' || SIGNS.indexOf(c) >= 0;
      JobshellQuay x = new JobshellQuay();
      char typed = (char) c;
      if (good) {
        may++;
        CHECKS.due("type of " + c, x.type(typed), 1);
      } else {
        CHECKS.thrown("type of " + c, IllegalArgumentException.class, () -> x.type(typed));
      }
    }
    CHECKS.due("how many chars may be typed", may, 36 + 22);
    // "blanks between parts count for nothing but that they end words"
    CHECKS.runs("  echo   a ;  {  echo b ; }  |  cat  ", 0, "a/b/");
    CHECKS.runs("echo a b", 0, "a b/");
    CHECKS.runs("ech o", 127, "");
  }

  private static void lists() {
    // "list: and-or, [ ; or &, and-or ]*, [ ; or & ]."
    fits("a", "a;", "a&", "a;b", "a&b", "a;b&c;d&", "a&&b;c||d&e");
    CHECKS.faultAt("", 0);
    CHECKS.faultAt("a;;b", 2);
    CHECKS.faultAt("a & ;", 4);
    // "And-or: pipe, [ && or ||, pipe ]*."
    fits("a&&b", "a||b", "a|b&&c|d||e");
    CHECKS.faultAt("a&&", 3);
    CHECKS.faultAt("||a", 0);
    CHECKS.faultAt("a&&||b", 3);
    // "Pipe: command, [ |, command ]*."
    fits("a|b", "a|b|c", "(a)|{b}|if c;then d;fi");
    CHECKS.faultAt("a|", 2);
    CHECKS.faultAt("|a", 0);
    CHECKS.faultAt("a|;b", 2);
  }

  private static void commands() {
    // "( list ); or { list }"
    fits("(a)", "(a;b&)", "{a}", "{a;b&}", "((a))", "{{a}}", "({a})");
    CHECKS.faultAt("()", 1);
    CHECKS.faultAt("{}", 1);
    CHECKS.faultAt("(a}", 2);
    // "if list then list [ else list ] fi; or while list do list done"
    fits("if a;then b;fi", "if a;then b;else c;fi", "while a;do b;done");
    CHECKS.faultAt("if a;then b;", 12);
    CHECKS.faultAt("if a;else b;fi", 5);
    CHECKS.faultAt("while a;then", 8);
    // "a row of letters, right behind it (), and { list }: it defines a function"
    fits("f(){a}", "abc() {a}", "f(){a;};f");
    CHECKS.faultAt("f (){a}", 2);
    CHECKS.faultAt("f(a)", 2);
    CHECKS.faultAt("f()", 3);
    CHECKS.faultAt("f()(a)", 3);
    CHECKS.faultAt("f()a", 3);
    CHECKS.faultAt("f1(){a}", 2);
    // "or a simple one: assignments, words and redirections, one of these at least"
    fits("a=1", "a", ">f", "a=1 b >f", ">f a=1 b c <g");
    CHECKS.faultAt(" ", 1);
    CHECKS.faultAt("a;&", 2);
  }

  private static void toldWords() {
    // "A whole word of letters that is if or while where a command begins .. is told so, and is
    // nothing else"
    CHECKS.faultAt("if", 2);
    CHECKS.faultAt("a|while", 7);
    CHECKS.faultAt("if(){a}", 3);
    fits("iff", "if1", "if=", "if''", "if$a", "if{a,b}", "a if", "a=1 if", ">f while", "i\\f");
    // "or then, else, fi, do, done, where a command could begin, or behind a command that is no
    // simple one"
    for (String word : new String[] {"then", "else", "fi", "do", "done"}) {
      CHECKS.faultAt(word, 0);
      CHECKS.faultAt(word + "(){a}", 0);
      CHECKS.faultAt("a;" + word, 2);
      CHECKS.faultAt("a&&" + word, 3);
      CHECKS.faultAt("(a) " + word, 4);
      fits("a " + word, word + "x", word + "'x'", "a=1 " + word, "a>" + word);
    }
    fits("if (a)then {b}else (c)fi", "while {a}do (b)done");
    // "{ likewise where a command begins, whatever is behind it, and } where one could begin, or
    // behind a command"
    fits("{a,b}", "{a}", "{a;}", "{ a b }", "{(a)}", "{{a,b}}");
    CHECKS.runs("{echo,a}", 127, "");
    CHECKS.runs("x= {echo,a,b}", 0, "a b/");
    CHECKS.faultAt("a}", 1);
    CHECKS.faultAt("a;}", 2);
    CHECKS.faultAt("a&&}", 3);
  }

  private static void assignmentsAndRedirections() {
    // "An assignment is a letter, = and a word, or nothing (then it is empty), all side by side,
    // ahead of all words."
    value(after("a=b"), 'a', "b");
    value(after("a="), 'a', "");
    value(after("a=b=c"), 'a', "b=c");
    value(after("a= b=c"), 'b', "c");
    value(after(">f a=b"), 'a', "b");
    value(after("a=b c=d true e=f"), 'c', "d");
    value(after("a=b c=d true e=f"), 'e', "nothing");
    value(after("a =b"), 'a', "nothing");
    CHECKS.runs("ab=c", 127, "");
    CHECKS.runs("a\\=b", 127, "");
    CHECKS.runs("1=b", 127, "");
    // "A redirection is >, >> or <, and a word."
    CHECKS.leaves("echo a>f", 0, "f=a/ ");
    CHECKS.leaves("echo a > f >> g", 0, "f= g=a/ ");
    CHECKS.leaves(">f echo a", 0, "f=a/ ");
    CHECKS.leaves("echo a>b>'c d'\"$x\"\\e", 0, "b= c de=a/ ");
    CHECKS.faultAt("a>", 2);
    CHECKS.faultAt("a>;b", 2);
    CHECKS.faultAt("a>>>b", 3);
    CHECKS.faultAt("a<<b", 2);
  }

  private static void words() {
    JobshellQuay x = after("a=1");
    // "A word is one or more of these, side by side: chars a to z, 0 to 9, = * ? + - , # : (as they
    // are)"
    CHECKS.gives(x, "a=z0*9?b+c-d,e#f:", "a=z0*9?b+c-d,e#f:");
    CHECKS.gives(x, "#a", "#a");
    CHECKS.gives(x, "a'b'\"c\"\\d$a{e,f}", "abcd1e", "abcd1f");
    // "\ and any char, which is quoted"
    for (int i = 0; i < SIGNS.length(); i++) {
      CHECKS.gives(x, "\\" + SIGNS.charAt(i), "" + SIGNS.charAt(i));
    }
    CHECKS.gives(x, "\\a\\1", "a1");
    CHECKS.faultAt("a\\", 2);
  }

  private static void quotes() {
    JobshellQuay x = after("a='p  q'");
    // "' and chars that are no ', which are quoted, and '"
    CHECKS.gives(x, "'$a \"\\{b,c}*'", "$a \"\\{b,c}*");
    CHECKS.gives(x, "''", "");
    // "" and some of chars, $ things and \ ahead of " \ or $ (that char), and ", all quoted"
    CHECKS.gives(x, "\"b  $a {c,d} 'e'\"", "b  p  q {c,d} 'e'");
    CHECKS.gives(x, "\"\\\"\\\\\\$a\"", "\"\\$a");
    CHECKS.gives(x, "\"\"", "");
    // "In " the chars are all but " \ $; a \ ahead of another char is itself."
    CHECKS.gives(x, "\"\\a\\'\\ ;&|(){}><#\"", "\\a\\'\\ ;&|(){}><#");
    CHECKS.faultAt("\"$\"", 2);
    CHECKS.faultAt("\"$ \"", 2);
  }

  private static void choices() {
    JobshellQuay x = after("a=1");
    // "choices: {, a word or nothing, one or more times a comma and a word or nothing, and }"
    CHECKS.gives(x, "a{b,c}", "ab", "ac");
    CHECKS.gives(x, "a{,b,}", "a", "ab", "a");
    CHECKS.gives(x, "{a,b}c", "ac", "bc");
    CHECKS.faultAt("a {b}", 4);
    CHECKS.faultAt("a {}", 3);
    CHECKS.faultAt("a {b,c", 6);
    CHECKS.faultAt("a {b,c d}", 6);
    CHECKS.faultAt("a {b;c}", 4);
    // "a comma in these words, that is not quoted and not in choices or $ things of theirs, ends
    // them"
    CHECKS.gives(x, "{a',b'\",\"\\,,c}", "a,b,,", "c");
    CHECKS.gives(x, "{{a,b},${c:-d,e},$((1,2))}", "a", "b", "d,e", "0");
    CHECKS.gives(x, "a,b", "a,b");
  }

  private static void things() {
    // "A $ thing is $ and a letter; $ and 1 to 9; $#; $?; ${, a letter, }; ${#, a letter, }"
    fits("$a", "$z", "$1", "$9", "$#", "$?", "${a}", "${#a}", "\"$a$1$#$?${a}${#a}\"");
    CHECKS.faultAt("$", 1);
    CHECKS.faultAt("$0", 1);
    CHECKS.faultAt("$:", 1);
    CHECKS.faultAt("${", 2);
    CHECKS.faultAt("${1}", 2);
    CHECKS.faultAt("${a", 3);
    CHECKS.faultAt("${ab}", 3);
    CHECKS.faultAt("${#}", 3);
    CHECKS.faultAt("${#a:-b}", 4);
    // "${, a letter, :- or :+, a word or nothing, }, in which there are no choices, and quotes are
    // as in any word, also if all this stands in ""
    fits("${a:-}", "${a:+b}", "${a:-'b c'\"$d\"\\e}", "\"${a:-'b c'\"$d\"}\"", "${a:-${b:-c}}");
    CHECKS.faultAt("${a:b}", 4);
    CHECKS.faultAt("${a-b}", 3);
    CHECKS.faultAt("${a:-{b,c}}", 5);
    CHECKS.faultAt("${a:-b c}", 6);
    CHECKS.faultAt("\"${a:-b c}\"", 7);
    CHECKS.faultAt("\"${a:-'}\"", 9);
    // "$((, chars but ( and ), and ))"
    fits("$((1))", "$(())", "$((a {'\"\\;$b))");
    CHECKS.faultAt("$((1)", 5);
    CHECKS.faultAt("$((1) )", 5);
    CHECKS.faultAt("$((1(", 4);
    // "or $(, list, )"
    fits("$(a)", "$(a;b|c&)", "\"$(a \"b\")\"", "$( (a) )", "$(f(){a})");
    CHECKS.faultAt("$()", 2);
    CHECKS.faultAt("$(a", 3);
    CHECKS.faultAt("$(a}", 3);
  }

  private static void faults() {
    // "What does not fit is a fault at the first char (or the end) with which it cannot go on as it
    // is read from the left"
    CHECKS.faultAt("a;b)c(", 3);
    CHECKS.faultAt("a;(b  ", 6);
    CHECKS.faultAt("a $; 'b", 3);
    // "the longest signs first (&& ahead of &, $(( ahead of $( )"
    CHECKS.faultAt("a&&&b", 3);
    CHECKS.faultAt("a|||b", 3);
    fits("a&b&&c", "$( (a);(b))");
    CHECKS.faultAt("$((a);(b))", 5);
    // "of a word that is told so, but cannot stand there .. at the first char"
    CHECKS.faultAt("if a;done", 5);
    CHECKS.faultAt("(a) while b", 4);
    // "or of any other chars that stand where one that is told so has to, at the first char"
    CHECKS.faultAt("if (a) thenx", 7);
    CHECKS.faultAt("if (a) the", 7);
    CHECKS.faultAt("while (a)\"do\"", 9);
    CHECKS.faultAt("{(a) b}", 5);
    // "of a ' or " without its end the end"
    CHECKS.faultAt("a 'b;c", 6);
    CHECKS.faultAt("a \"b;c", 6);
    CHECKS.faultAt("a \"b\\\"", 6);
    CHECKS.faultAt("$(a 'b)", 7);
  }

  // ---- Words

  private static void expansionInItsOrder() {
    // "To expand words, each of them by itself, from the left"
    CHECKS.runs("echo * $(>f) * $(>g) *", 0, "* f f g/");
    // "first choices: a word with choices becomes as many words, one for each choice of its first
    // choices, in order, with what is ahead and behind, and each of these likewise"
    CHECKS.runs("echo a{b,c{d,e}}f{g,h}i", 0, "abfgi abfhi acdfgi acdfhi acefgi acefhi/");
    CHECKS.runs("echo {$(echo a>>f),$(echo b>>f)}{1,2};cat<f", 0, "1 2 1 2/a/a/b/b/");
    // "of more than 8 words by one the others are gone"
    CHECKS.runs("echo {1,2,3,4}{a,b,$(>f)} {c,d}", 0, "1a 1b 1 2a 2b 2 3a 3b c d/");
    CHECKS.runs("echo {1,2,3,4,5,6,7,8,$(>f)};echo *", 0, "1 2 3 4 5 6 7 8/*/");
    // choices are ahead of $ things: what these give is no choice
    CHECKS.runs("a='{b,c}';echo $a x$a{d,e}", 0, "{b,c} x{b,c}d x{b,c}e/");
  }

  private static void dollarThings() {
    JobshellQuay x = after("a=xyz;b=;set p q r", "exit 7");
    // "a name gives what it is, nothing if it is nothing; 1 to 9 that parameter, or nothing; # how
    // many parameters there are; ? the status; ${#a} how many chars a has"
    CHECKS.gives(x, "-$a-$b-$c-${a}1", "-xyz---xyz1");
    CHECKS.gives(x, "-$1-$3-$4-$10", "-p-r--p0");
    CHECKS.gives(x, "$# $? ${#a} ${#b} ${#c}", "3", "7", "3", "0", "0");
    // ":- gives a, or, if that is empty or nothing, the word; :+ the word, if a is neither,
    // otherwise nothing (the word expanded like all else here, what is quoted in it being quoted)"
    CHECKS.gives(x, "${a:-w} ${b:-w} ${c:-w}", "xyz", "w", "w");
    CHECKS.gives(x, "-${a:+w}- -${b:+w}- -${c:+w}-", "-w-", "--", "--");
    CHECKS.gives(x, "${b:-$a'  '$((1+1))} ${b:-'*'} ${c:-\"\"}", "xyz  2", "*", "");
    // "a sum its number"
    CHECKS.gives(x, "$((1+2))", "3");
    // "a command the output of the list in a subshell, without input, without newlines at its end"
    CHECKS.runs("echo -\"$(echo a;echo b;echo;echo)\"-", 0, "-a/b-/");
    CHECKS.runs("a=1;echo $(a=2;echo $a)$a", 0, "21/");
    CHECKS.runs("echo abc|echo $(wc)", 0, "0/");
    // "$ things, from the left"
    CHECKS.runs("echo $(>f;echo *)$(>g;echo *)", 0, "ff g/");
  }

  private static void fieldsAndPatterns() {
    JobshellQuay x = after("a='p  q';b=' r ';>f1;>f2;>g;n=$(echo s;echo t)");
    // "Then fields: a word is cut at blanks and newlines that come from $ things and are not
    // quoted"
    CHECKS.gives(x, "x$a$b'y z'\"$a\"", "xp", "q", "r", "y zp  q");
    CHECKS.gives(x, "$n \"$n\" \\ ", "s", "t", "s\nt", " ");
    // "what is empty, and has nothing quoted in it, is gone"
    CHECKS.gives(x, "$c ${c} $b {,} '' \"$c\" $c''", "r", "", "", "");
    // "Then patterns: a field with a * or ? that is not quoted becomes all names of files that it
    // fits, in order (* any chars, none too, ? one), if there are some"
    CHECKS.gives(x, "* f* ?? f?1 *f1* x* ?", "f1", "f2", "g", "f1", "f2", "f1", "f2", "f?1", "f1",
        "x*", "g");
    CHECKS.gives(after(">f;w='f* g?'"), "$w \"$w\" ${z:-*}", "f", "g?", "f* g?", "f");
    // "Then quotes are gone."
    CHECKS.gives(x, "'f*' f\\? \"*\" 'f'* \"f\"'1'", "f*", "f?", "*", "f1", "f2", "f1");
  }

  private static void room() {
    JobshellQuay x = after("a=" + Checks.chars(100));
    // "All words of a command, then those of its redirections, then those of its assignments, have
    // together at most 120 chars when $ things are expanded (quotes do not count): what comes
    // behind these is gone"
    CHECKS.goesOn(x, "echo $a;echo ''$a\"\" 'abcdefghijklmnopqrs'", 0, Checks.chars(100) + "/"
        + Checks.chars(100) + " abcdefghijklmnop/");
    CHECKS.goesOn(x, "b=12345 echo $a >abcdefgh 123;echo $b", 0, "12345/");
    CHECKS.goesOn(x, "b=12345 echo $a >abcdefgh 1234567;echo $b", 0, "1/");
    CHECKS.goesOn(x, "b=12345 echo $a 12345678 >abcdefgh;echo x$b", 0, "x/");
    CHECKS.goesOn(x, "echo *;rm *", 0, "abcdefgh/");
    CHECKS.goesOn(x, "echo $a 123456789012345 >abcdefgh;echo *", 0, "a/");
    // "but for what $( ) does (of a word with something quoted an empty field stays)"
    CHECKS.goesOn(x, "set $a$a b 'c' $(>g)d \"$a\";echo $# *", 0, "3 a g/");
    // "a row of words likewise"
    CHECKS.gives(x, "$a$a b 'c' \"$a\"", Checks.chars(100) + Checks.chars(20), "", "");
    // "There are at most 16 fields, behind patterns; those behind are gone."
    CHECKS.gives(x, "1 2 3 4 5 6 7 8 9 10 11 12 13 14 * 15", "1", "2", "3", "4", "5", "6", "7", "8",
        "9", "10", "11", "12", "13", "14", "a", "g");
    CHECKS.goesOn(x, "set 1 2 3 4 5 6 7 8 9 10 11 12 13 14 15 16;echo $#", 0, "15/");
    // "The words of assignments and redirections are expanded without fields and patterns; there
    // are no choices in them: a { in them is a fault."
    JobshellQuay y = after("a=' b  * ';c=$a;>x;d=*");
    value(y, 'c', " b  * ");
    value(y, 'd', "*");
    CHECKS.due("files", Checks.files(after(">x;>*;a='y z';>$a")), "*= x= y z= ");
    CHECKS.faultAt("a={b,c}", 2);
    CHECKS.faultAt("a=b{", 3);
    CHECKS.faultAt(">{b,c}", 1);
    CHECKS.faultAt("a >b{c,d}", 4);
    fits("a=$(b {c,d})", ">$(b {c,d})");
  }

  private static void sums() {
    JobshellQuay x = after("a=7;b=-3;c=x;d=1234567890;e=;f=999999999;g=--1");
    // "A sum has numbers (1 to 9 digits), names (the number that a name is, 0 if it is none), + -
    // *, and blanks between them: a number or name, and any number of times a sign and one"
    CHECKS.gives(x, "$((1)) $((a)) $((a+b)) $((a - 1 + 2)) $((007))", "1", "7", "4", "8", "7");
    CHECKS.gives(x, "$((c)) $((d)) $((e)) $((g)) $((z)) $((c+1))", "0", "0", "0", "0", "0", "1");
    // "* ahead of the others, from the left"
    CHECKS.gives(x, "$((1+2*3)) $((2*3-4*5)) $((10-3-2)) $((2-b*2))", "7", "-14", "5", "8");
    // "ints with overflow"
    CHECKS.gives(x, "$((f*f)) $((65536*65536)) $((f+f+f))", "" + 999999999 * 999999999, "0",
        "" + (999999999 * 3));
    // "what is no such sum is 0"
    CHECKS.gives(x, "$(()) $((-1)) $((1+)) $((+1)) $((1 2)) $((aa)) $((1a))", "0", "0", "0", "0",
        "0", "0", "0");
    CHECKS.gives(x, "$((1+-1)) $(($a)) $((1,2)) $((1234567890)) $((1--1))", "0", "0", "0", "0",
        "0");
    // "A name is a number if it is 1 to 9 digits, perhaps with - ahead."
    CHECKS.gives(after("a=-;b=-123456789;c=123456789;d=0-1"), "$((a)) $((b)) $((c)) $((d))", "0",
        "-123456789", "123456789", "0");
  }

  // ---- Running

  private static void shells() {
    // "A shell has names a to z (nothing at first), parameters, functions and a status, 0 at first"
    CHECKS.runs("echo $# $? \"$a\"${z:-n};f", 127, "0 0 n/");
    // "a subshell begins with copies, and changes nothing of the other one's; files are of all"
    CHECKS.runs("a=1;set p;f(){echo f;};x;(echo $a $1 $?;f)", 0, "1 p 127/f/");
    CHECKS.runs("a=1;set p;f(){echo f;};(a=2;set q;f(){ x;};>g;exit 3);echo $? $a $1 *;f", 0,
        "3 1 p g/f/");
  }

  private static void listsRun() {
    // "A list runs its parts in order; with & behind one that is a job."
    CHECKS.runs("echo a;echo b;echo c", 0, "a/b/c/");
    CHECKS.due("jobs", after("a&&b||c|d&e;f&").jobs(), 2);
    // "&& runs what is behind it if the status is 0, || if it is not."
    CHECKS.runs("true&&echo a;false&&echo b;true||echo c;false||echo d", 0, "a/d/");
    CHECKS.runs("false&&echo a||echo b&&echo c;true||echo d&&echo e", 0, "b/c/e/");
    CHECKS.runs("false&&echo a", 1, "");
  }

  private static void pipesAndSubshells() {
    // "In a pipe of several each one runs in a subshell, one behind the other, its output being the
    // input of the next one; the status is that of the last one."
    CHECKS.runs("a=1|a=2|echo -$a", 0, "-/");
    CHECKS.runs("echo b>f|cat f|cat<f", 0, "b/");
    CHECKS.runs("echo ab|{ cat;cat;echo c;}|wc", 0, "5/");
    CHECKS.runs("exit 3|exit 4", 4, "");
    CHECKS.runs("a=1;a=2|true;echo $a", 0, "1/");
    // "( ) runs in a subshell with the input and output that there are, what it takes of the input
    // being taken, whose status is that of the shell then"
    CHECKS.runs("echo abc|{ (wc);wc;}", 0, "4/0/");
    CHECKS.runs("(echo a;exit 9);echo $?", 0, "a/9/");
    // "in a subshell no function and no while runs at first"
    CHECKS.runs("f(){(return 5);echo $?;(local a);echo $?;};f", 0, "1/1/");
    CHECKS.runs("while true;do (break);echo $?;break;done", 0, "1/");
  }

  private static void conditionsAndLoops() {
    // "if runs then if the status of its list is 0, otherwise else, or the status is 0 without one"
    CHECKS.runs("if false;true;then echo a;else echo b;fi", 0, "a/");
    CHECKS.runs("if true;false;then echo a;else echo b;fi", 0, "b/");
    CHECKS.runs("if exit 3|false;then echo a;fi", 0, "");
    CHECKS.runs("if true;then (exit 4);fi", 4, "");
    CHECKS.runs("if false;then a;else (exit 5);fi", 5, "");
    // "while runs its list, and, if the status is 0, do, again and again; the status is that of the
    // last do, 0 without one"
    CHECKS.runs("while test ${#a} 0||test ${#a} 1;do a=1$a;echo $a;(exit 6);done", 6, "1/11/");
    CHECKS.runs("false;while (exit 7)do a;done", 0, "");
    // "A while whose list or do is ended by break has the status 0."
    CHECKS.runs("while (exit 3)||break;do a;done", 0, "");
    CHECKS.runs("while true;do (exit 3);break;done", 0, "");
    // "Defining has the status 0, in place of a function of that name."
    CHECKS.runs("false;f(){echo a;};echo $?;f;f(){echo b;};f", 0, "0/a/b/");
  }

  private static void simpleCommands() {
    // "its words are expanded, then redirections are done in order, then assignments, in order"
    CHECKS.runs("a=1;a=2 b=$a echo $a$(echo *)>f$a;echo $a$b;cat<f1", 0, "22/1*/");
    CHECKS.runs("echo x>f;a=$(cat<f)y true>f;echo $a", 0, "y/");
    // "Assignments stay, also with words."
    CHECKS.runs("a=1 true;b=2 x;echo $a$b", 0, "12/");
    // "The first word tells what is run, the others are its parameters"
    CHECKS.runs("a=echo;$a b;e'ch'o c;\"echo d\";''", 127, "b/c/");
    // "For any other one the status is 127. What has no other status has 0."
    CHECKS.runs("x;echo $?;cat;echo $?;wc;echo $?;set;echo $?", 0, "127/0/0/0/0/");
  }

  private static void files() {
    // "> makes a file empty, and lets the output go there; >> lets it go there, too, behind what
    // the file has (both when what is run ends, in whatever way, the file being made again, if it
    // is gone by then, and may be"
    CHECKS.leaves("echo a>f;echo b>f;echo c>>f;echo d>>g", 0, "f=b/c/ g=d/ ");
    CHECKS.leaves("f(){echo a;wc<g;};f>g", 0, "g=a/0/ ");
    CHECKS.leaves("f(){echo a;echo b>>g;echo c;};f>g", 0, "g=b/a/c/ ");
    CHECKS.leaves("f(){echo a;rm g;};echo b>g;f>>g", 0, "g=a/ ");
    CHECKS.leaves("f(){echo a;exit 3;};f>g;x", 3, "g=a/ ");
    CHECKS.leaves("f(){echo a;return 3;};f>g", 3, "g=a/ ");
    CHECKS.leaves("f(){echo a;f;};f>g", 126, "g=a/a/a/a/a/a/a/a/a/a/a/a/ ");
    CHECKS.leaves("f(){ rm 8;>9;};>1;>2;>3;>4;>5;>6;>7;f>8", 0,
        "1= 2= 3= 4= 5= 6= 7= 9= ");
    // "if a redirection fails, nothing is run, and no file is made again)"
    CHECKS.leaves("a=1 rm g>g<h;echo $a>i", 0, "g= i=/ ");
    CHECKS.leaves(">g >$(rm g)", 1, "");
    // "< makes the file, as it is then, the input"
    CHECKS.runs("f(){echo b>g;cat;};echo a>g;f<g", 0, "a/");
    // "of several the last < counts, and the last one of > and >>, though all are done"
    CHECKS.runs("echo a>f;echo b>g;cat<f<g>h>>i;cat<i;echo *", 0, "b/f g h i/");
    CHECKS.leaves("echo a>f>>g;echo b>>g>f", 0, "f=b/ g=a/ ");
    // "A file has a name, 1 to 8 chars, and at most 60 chars; what is more is cut off."
    CHECKS.leaves(">a >abcdefgh", 0, "a= abcdefgh= ");
    JobshellQuay x = after("a=" + Checks.chars(50) + ";echo $a>f;echo $a>>f");
    CHECKS.due("files", Checks.files(x), "f=" + Checks.chars(50) + "/" + Checks.chars(9) + " ");
    // "There are at most 8 files, > and >> make them."
    CHECKS.leaves(">1;>>2;>3;>>4;>5;>6;>7;>8;>8;>>1", 0, "1= 2= 3= 4= 5= 6= 7= 8= ");
    CHECKS.leaves("cat<1;rm 1;echo *", 0, "");
    // "< of a file that there is not, a wrong name, or a ninth file ends the command with the
    // status 1."
    CHECKS.runs("a=1 echo b<f;echo $?$a", 0, "1/");
    CHECKS.runs("echo b>abcdefghi;echo $?;echo b>'';echo $?;cat<'';echo $?", 0, "1/1/1/");
    CHECKS.leaves(">1;>2;>3;>4;>5;>6;>7;>8;echo a>9", 1, "1= 2= 3= 4= 5= 6= 7= 8= ");
  }

  private static void withoutWords() {
    // "Without words the status is that of the last command run in its expansions, 0 without one."
    CHECKS.runs("false;a=1;echo $?;x;>f;echo $?", 0, "0/0/");
    CHECKS.runs("a=$(exit 3) b=$(exit 4);echo $?;>$(echo f;exit 5);echo $?", 0, "4/5/");
    CHECKS.runs("$(exit 6);echo $?;$z;echo $?;a=$(exit 7)<g;echo $?", 0, "6/0/1/");
    CHECKS.runs("a=$(exit 3) true;echo $?;a=${b:+$(false)};echo $?", 0, "0/0/");
  }

  private static void toolsForTexts() {
    // "echo: they go to the output, with blanks between, and a newline; true, false: the status 0,
    // 1"
    CHECKS.runs("echo;echo a;echo a '' 'b  c'", 0, "/a/a  b  c/");
    CHECKS.runs("true;echo $?;false;echo $?;true a;false b", 1, "0/1/");
    // "cat: what is left of the input goes to the output"
    CHECKS.runs("echo a|{ cat;cat;};cat", 0, "a/");
    // "wc: how many chars are left of the input, and a newline; none is left then"
    CHECKS.runs("echo abc|{ wc;wc;cat;};wc", 0, "4/0/0/");
    // "test: 0 if there are two, and they are the same, otherwise 1"
    CHECKS.runs("test a a;echo $?;test a b;echo $?;test '' '';echo $?", 0, "0/1/0/");
    CHECKS.runs("test;echo $?;test a;echo $?;test a a a;echo $?;test a aa", 1, "1/1/1/");
    // "rm: files with these names go (1 if one is not there)"
    CHECKS.leaves(">f;>g;>h;rm f h", 0, "g= ");
    CHECKS.leaves(">f;>g;rm f x g", 1, "");
    CHECKS.leaves(">f;>g;rm", 0, "f= g= ");
  }

  private static void toolsForNames() {
    // "set: they become the parameters of the shell, or the function"
    CHECKS.runs("set a b;echo $# $1$2;set;echo $#", 0, "2 ab/0/");
    CHECKS.runs("f(){set c;echo $1;};set a;f b;echo $1", 0, "c/a/");
    // "shift: the first of these goes (the status 1 without one)"
    CHECKS.runs("set a b;shift;echo $? $# $1;shift;echo $? $#;shift;echo $?", 0, "0 1 b/0 0/1/");
    CHECKS.runs("f(){shift;echo $1;};set a b;f c d;echo $1", 0, "d/a/");
    // "local: each one that is a letter is local to the function that runs: it is nothing then, and
    // what it was ahead of that when it ends (1 outside of functions)"
    CHECKS.runs("f(){local a b;echo ${a:-n}${b:-n};a=3 b=4;};a=1;f;echo $a${b:-n}", 0, "nn/1n/");
    CHECKS.runs("f(){a=2;local a;a=3;local a;echo ${a:-n};};a=1;f;echo $a", 0, "n/2/");
    CHECKS.runs("f(){local ab 1 '' c;echo $?;c=5;};c=1;f;echo $c", 0, "0/1/");
    CHECKS.runs("g(){echo $a;a=3;};f(){local a;a=2;g;echo $a;};a=1;f;echo $a", 0, "2/3/1/");
    CHECKS.runs("a=1;local a;echo $? $a", 0, "1 1/");
  }

  private static void endings() {
    // "break: ends the innermost while that runs in this shell and function (1 without one)"
    CHECKS.runs("while true;do while true;do break;done;echo a;break;done;break", 1, "a/");
    CHECKS.runs("f(){ break;};while true;do f;echo $?;break;done", 0, "1/");
    // "return: ends the function (1 outside), with its first one as the status, a number (if it is
    // one) with the remainder by 256, 0 to 255, or the status that there is"
    CHECKS.runs("f(){return $1;echo a;};f 7;echo $?;f 258;echo $?;f -1;echo $?", 0, "7/2/255/");
    CHECKS.runs("f(){(exit 9);return $1;};f;echo $?;f x;echo $?;f 1234567890", 9, "9/9/");
    CHECKS.runs("return 5;echo $?", 0, "1/");
    // "exit: likewise ends the shell or subshell"
    CHECKS.runs("(exit 300;echo a);echo $?;false;exit;echo b", 1, "44/");
    CHECKS.runs("f(){ exit 3;};(f;echo a);echo $?;f;echo b", 3, "3/");
    CHECKS.goesOn(after("a=1;exit 4;a=2"), "echo $a$?", 0, "14/");
  }

  private static void functions() {
    // "a function: runs it with them as parameters, the former ones coming back then"
    CHECKS.runs("f(){echo $# $1;shift;};set a b;f c d e;echo $# $1", 0, "3 c/2 a/");
    CHECKS.runs("f(){echo $1;test $1 x||f x;echo $1;};f a", 0, "a/x/x/a/");
    // "Functions go ahead of all these."
    CHECKS.runs("echo(){ exit 3;};(echo a);true(){ false;};true", 1, "");
    CHECKS.runs("cat(){echo c;};echo a|cat", 0, "c/");
  }

  private static void runsThatEndAll() {
    String all = Checks.times("x;", 28);
    // "A run has at most 30 simple commands and definitions, together"
    CHECKS.runs(all + "f(){x};echo a", 0, "a/");
    CHECKS.runs(all + "f(){x};>f;echo a", 126, "");
    // "and at most 12 functions, subshells and commands in words in one another; with more all ends
    // with the status 126"
    CHECKS.runs("f(){(echo $(echo a));};(((((((((f)))))))))", 0, "a/");
    CHECKS.runs("f(){(echo $(echo a));};((((((((((f))))))))));echo b", 126, "");
    // "files and output being as they are then, names, parameters and functions as well, as they
    // are in the outermost shell"
    JobshellQuay x = after("a=1;set p;f(){echo f;}");
    CHECKS.goesOn(x, "a=2;set q;g(){echo g;};echo b>h;echo c;(a=3;while true;do a=4;done);a=5", 126,
        "c/");
    CHECKS.goesOn(x, "cat<h;f;g;echo $a $1", 0, "b/f/g/2 q/");
    // "(functions that run end by it, so that what was local and the parameters are given back)"
    CHECKS.goesOn(x, "f(){local a;a=6;b=7;set r;while true;do x;done;};f s", 126, "");
    CHECKS.goesOn(x, "echo $a $b $1 $#;return", 1, "2 7 q 1/");
  }

  private static void outputs() {
    // "Output beyond 300 chars, for the outermost shell, is gone, of any other output beyond 200."
    JobshellQuay x = after("a=" + Checks.chars(99), "f(){echo $a;echo $a;echo $a;}");
    CHECKS.goesOn(x, "f", 0, Checks.times(Checks.chars(99) + "/", 3));
    CHECKS.due("run", Checks.run(x, "echo a"), 0);
    CHECKS.due("size", x.size(), 300);
    CHECKS.goesOn(x, "f|wc;(f)|wc", 0, "200/200/");
    CHECKS.goesOn(x, "f&", 0, "");
    CHECKS.due("front", x.front(0), 0);
    CHECKS.due("size", x.size(), 200);
  }

  // ---- Jobs

  private static void jobsAtOnce() {
    // "A job is what is run with &: at once, so that it has its status then, in a subshell, without
    // input"
    JobshellQuay x = after("a=1;(echo b>f;a=2;exit 5)&cat<f;echo $a");
    output(x, "b/1/");
    is(x, 0, JobshellQuay.GOING, 5, 0);
    CHECKS.runs("echo a|{ wc>f&cat;};cat<f", 0, "a/0/");
    // "its number is given, from 0 on, when it ends, at most 6; a seventh ends all as told above"
    JobshellQuay y = after("((exit 1)&exit 2)&exit 3&");
    for (int job = 0; job < 3; job++) {
      is(y, job, JobshellQuay.GOING, job + 1, 0);
    }
    CHECKS.goesOn(y, "a&b&c&echo d", 0, "d/");
    CHECKS.goesOn(y, "a&echo d", 126, "");
    CHECKS.due("jobs", y.jobs(), 6);
    // "The status is 0 then."
    CHECKS.runs("false;exit 3&echo $?", 0, "0/");
    // "Jobs within jobs, and other subshells, are jobs as well."
    JobshellQuay z = after("(echo a&echo b)&(echo c&);d=$(echo e&echo f);{ echo g&}|cat");
    CHECKS.due("jobs", z.jobs(), 5);
    CHECKS.due("pass", z.pass(1), 5);
    output(z, "a/b/c/e/g/");
  }

  private static void jobsLater() {
    // "Its output comes out later: with each tick each job that goes gives the outermost output its
    // next line (with its newline, if it has one), jobs by their numbers"
    JobshellQuay x = after("a=" + Checks.chars(99),
        "(echo b;echo;echo c)&(echo $a;echo d;echo $a)&");
    output(x, "");
    CHECKS.due("pass", x.pass(1), 2);
    output(x, "b/" + Checks.chars(99) + "/");
    CHECKS.due("pass", x.pass(1), 2);
    output(x, "/d/");
    CHECKS.due("pass", x.pass(1), 2);
    output(x, "c/" + Checks.chars(98));
    // "one that has no line left behind that is ended, also one that never had any, with its first
    // tick"
    JobshellQuay y = after("echo a&(echo b;echo c)&true&");
    CHECKS.due("pass", y.pass(1), 2);
    is(y, 0, JobshellQuay.ENDED, 0, 0);
    is(y, 1, JobshellQuay.GOING, 0, 1);
    is(y, 2, JobshellQuay.ENDED, 0, 0);
    CHECKS.due("pass", y.pass(1), 1);
    is(y, 1, JobshellQuay.ENDED, 0, 0);
  }

  // ---- Exceptions, and the promises

  private static void exceptions() {
    JobshellQuay x = after("echo a&echo b>f");
    x.pass(1);
    Class<?> place = IndexOutOfBoundsException.class;
    // "IndexOutOfBoundsException: there is no such name, job, file or place."
    CHECKS.thrown("value", place, () -> x.value(26, 0));
    CHECKS.thrown("job", place, () -> x.job(1, 0));
    CHECKS.thrown("file", place, () -> x.file(1, 0, true));
    CHECKS.thrown("charAt", place, () -> x.charAt(2));
    // "IllegalArgumentException: another argument is out of its range."
    CHECKS.thrown("job", IllegalArgumentException.class, () -> x.job(0, 3));
    CHECKS.thrown("pass", IllegalArgumentException.class, () -> x.pass(51));
    // "IllegalStateException: as the method tells."
    CHECKS.thrown("turn", IllegalStateException.class, () -> x.turn(0));
    CHECKS.thrown("run", IllegalStateException.class, () -> x.run());
    // "If several apply, the one that is named first in the throws clause is thrown"
    CHECKS.thrown("job", place, () -> x.job(1, 3));
    Checks.type(x, Checks.times("a", 120));
    CHECKS.thrown("type", IllegalArgumentException.class, () -> x.type('A'));
    CHECKS.thrown("type", IllegalStateException.class, () -> x.type('a'));
    // "a call that throws changes nothing"
    CHECKS.due("clear", x.clear(), 120);
    is(x, 0, JobshellQuay.ENDED, 0, 0);
    output(x, "a/");
    // "NONE = -1: There is none." "GOING = 0, STOPPED = 1, ENDED = 2: What jobs are."
    CHECKS.due("NONE", JobshellQuay.NONE, -1);
    CHECKS.due("GOING", JobshellQuay.GOING, 0);
    CHECKS.due("STOPPED", JobshellQuay.STOPPED, 1);
    CHECKS.due("ENDED", JobshellQuay.ENDED, 2);
  }

  private static void promises1To5() {
    // 1: "Begins with an empty text, without files, names, functions and jobs."
    JobshellQuay x = new JobshellQuay();
    CHECKS.due("all", x.clear() + x.files() + x.jobs() + x.size() + x.status(), 0);
    value(x, 'a', "nothing");
    CHECKS.goesOn(x, "f", 127, "");
    // 2: "Types a char." "Returns how many there are then."
    CHECKS.due("type", x.type('a') * 10 + x.type('='), 12);
    // 3: "Empties the text; returns how many chars it had."
    CHECKS.due("clear", x.clear() * 10 + x.clear(), 20);
    // 4: "Returns where the text cannot go on as a list." "Returns the place; NONE if it is one."
    CHECKS.due("fault", x.fault(), 0);
    Checks.type(x, "a=b;");
    CHECKS.due("fault", x.fault(), NONE);
    Checks.type(x, ";");
    CHECKS.due("fault", x.fault(), 4);
    // 5: "Runs the text, which is empty then." "Returns the status." "Throws IllegalStateException
    // if it is no list"
    CHECKS.thrown("run", IllegalStateException.class, () -> x.run());
    CHECKS.due("clear", x.clear(), 5);
    CHECKS.due("run", Checks.run(x, "a=b;exit 3"), 3);
    CHECKS.due("clear", x.clear(), 0);
    value(x, 'a', "b");
  }

  private static void promises6To9() {
    // 6: "Lets ticks pass." "Returns how many lines came out."
    JobshellQuay x = after("(echo a;echo b;echo c)&(echo d;exit 4)&(echo e;echo f;exit 5)&");
    CHECKS.due("pass", x.pass(2), 5);
    output(x, "a/d/e/b/f/");
    CHECKS.due("pass", x.pass(50), 1);
    output(x, "c/");
    // 7: "Stops a job, or lets it go on." "Returns what it was."
    JobshellQuay y = after("(echo a;echo b;exit 4)&(echo c;echo d;echo e;exit 5)&");
    CHECKS.due("turn", y.turn(0), JobshellQuay.GOING);
    is(y, 0, JobshellQuay.STOPPED, 4, 2);
    CHECKS.due("pass", y.pass(1), 1);
    output(y, "c/");
    CHECKS.due("turn", y.turn(0), JobshellQuay.STOPPED);
    is(y, 0, JobshellQuay.GOING, 4, 2);
    // 8: "Gets a job to the front: all its lines come out at once, it is ended, and its status
    // becomes that of the shell." "Returns its status."
    CHECKS.due("front", y.front(0), 4);
    output(y, "a/b/");
    is(y, 0, JobshellQuay.ENDED, 4, 0);
    CHECKS.due("status", y.status(), 4);
    // 9: "Kills a job: what has not come out never does; it is ended, with the status 137."
    // "Returns how many lines were left."
    CHECKS.due("kill", y.kill(1), 2);
    is(y, 1, JobshellQuay.ENDED, 137, 0);
    CHECKS.due("pass", y.pass(50), 0);
    output(y, "");
    CHECKS.due("status", y.status(), 4);
    // "Throws IndexOutOfBoundsException as told" "IllegalStateException if it is ended"
    for (int job = 0; job < 2; job++) {
      int one = job;
      CHECKS.thrown("turn", IllegalStateException.class, () -> y.turn(one));
      CHECKS.thrown("front", IllegalStateException.class, () -> y.front(one));
      CHECKS.thrown("kill", IllegalStateException.class, () -> y.kill(one));
    }
    for (int job : new int[] {-1, 2, 6, Integer.MAX_VALUE, Integer.MIN_VALUE}) {
      CHECKS.thrown("turn", IndexOutOfBoundsException.class, () -> y.turn(job));
      CHECKS.thrown("front", IndexOutOfBoundsException.class, () -> y.front(job));
      CHECKS.thrown("kill", IndexOutOfBoundsException.class, () -> y.kill(job));
    }
  }

  private static void promises10To13() {
    JobshellQuay x = after("echo ab;exit 3");
    // 10: "Returns the status."
    CHECKS.due("status", x.status(), 3);
    // 11: "Returns how many chars the output has."
    CHECKS.due("size", x.size(), 3);
    // 12: "Returns a char of the output."
    CHECKS.due("chars", "" + x.charAt(0) + x.charAt(1) + x.charAt(2), "ab\n");
    CHECKS.thrown("charAt", IndexOutOfBoundsException.class, () -> x.charAt(3));
    CHECKS.thrown("charAt", IndexOutOfBoundsException.class, () -> x.charAt(-1));
    // 13: "Empties the output; returns how many chars it had."
    CHECKS.due("flush", x.flush() * 10 + x.flush(), 30);
    CHECKS.due("size", x.size(), 0);
  }

  private static void promises14To18() {
    JobshellQuay x = after("a=bc;z=;echo de>g;echo f>ab", "(echo a;exit 3)&");
    // 14: "Returns the char's code; NONE if it has not so many; -2 if the name is nothing."
    CHECKS.due("value", x.value(0, 1), 'c');
    CHECKS.due("value", x.value(0, 2), NONE);
    CHECKS.due("value", x.value(25, 0), NONE);
    CHECKS.due("value", x.value(1, 0), -2);
    CHECKS.thrown("value", IndexOutOfBoundsException.class, () -> x.value(0, -1));
    CHECKS.thrown("value", IndexOutOfBoundsException.class, () -> x.value(-1, 0));
    // 15: "Returns how many files there are."
    CHECKS.due("files", x.files(), 2);
    // 16: "Returns a char of the name of a file, by the order of names, or of what it has."
    CHECKS.due("file", x.file(0, 1, true), 'b');
    CHECKS.due("file", x.file(0, 2, true), NONE);
    CHECKS.due("file", x.file(1, 1, false), 'e');
    CHECKS.due("file", x.file(1, 3, false), NONE);
    CHECKS.thrown("file", IndexOutOfBoundsException.class, () -> x.file(1, -1, true));
    CHECKS.thrown("file", IndexOutOfBoundsException.class, () -> x.file(2, 0, false));
    // 17: "Returns how many jobs there were."
    CHECKS.due("jobs", x.jobs(), 1);
    x.kill(0);
    CHECKS.due("jobs", x.jobs(), 1);
    // 18: "0 what it is, 1 its status, 2 how many lines it has left"
    is(after("(echo a;echo b;exit 3)&"), 0, JobshellQuay.GOING, 3, 2);
    CHECKS.thrown("job", IllegalArgumentException.class, () -> x.job(0, -1));
  }

  private static void promises19To21() {
    JobshellQuay x = after("a='p  q';>f1;>f2");
    // 19: "Returns how many fields the text gives, if it is a row of words alone, without any
    // commands in them; assignments and words that are told so are words there." "NONE if it is no
    // such row (it may be empty)."
    CHECKS.gives(x, "if a=$a fi b={1,2} f* ''", "if", "a=p", "q", "fi", "b=1", "b=2", "f1", "f2",
        "");
    CHECKS.gives(x, "");
    for (String none : new String[] {"a;", "a>b", "$(a)", "\"$(a)\"", "(a)", "{a}", "'"}) {
      CHECKS.noRow(none);
    }
    // 20 and 21: "Returns the char's code; NONE if there is no such row or field, or it has not so
    // many." "Throws IndexOutOfBoundsException if field or place is below 0"
    Checks.type(x, "$a f*");
    int[][] due = {{1, 0, 'q'}, {1, 1, NONE}, {3, 1, '2'}, {4, 0, NONE}};
    for (int[] one : due) {
      CHECKS.due("fieldAt", x.fieldAt(one[0], one[1]), one[2]);
      CHECKS.due("fieldAnew", x.fieldAnew(one[0], one[1]), one[2]);
    }
    Checks.type(x, ";");
    CHECKS.due("fieldAt", x.fieldAt(0, 0), NONE);
    CHECKS.due("fieldAnew", x.fieldAnew(0, 0), NONE);
    Class<?> place = IndexOutOfBoundsException.class;
    CHECKS.thrown("fieldAt", place, () -> x.fieldAt(-1, 0));
    CHECKS.thrown("fieldAt", place, () -> x.fieldAt(0, -1));
    CHECKS.thrown("fieldAnew", place, () -> x.fieldAnew(-1, 0));
    CHECKS.thrown("fieldAnew", place, () -> x.fieldAnew(0, -1));
  }
}
