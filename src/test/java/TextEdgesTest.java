/**
 * The bounds of promises 1 to 4 and of "Text": a test for each sentence, at its bound, one below
 * it and one above it.
 */
final class TextEdgesTest {
  private static final Checks CHECKS = new Checks("TextEdgesTest");
  private static final int NONE = JobshellQuay.NONE;

  public static void main(String[] args) {
    usedFor512Calls();
    atMost120Chars();
    clearTellsHowMany();
    faultPlaces();
    blanksEndWords();
    listsOfAnyLength();
    pipesAndAndOrs();
    simpleHasOneAtLeast();
    toldWordsAreWhole();
    toldWordsWhereTheyStand();
    eachListHasItsOwnEnd();
    afterAFault();
    braces();
    definitions();
    assignments();
    redirections();
    quotes();
    choices();
    things();
    braceThings();
    sums();
    longestSignsFirst();
    endsOfQuotes();
    atTheEndOfAFullText();
    CHECKS.end();
  }

  private static void fits(String text) {
    CHECKS.faultAt(text, NONE);
  }

  private static void usedFor512Calls() {
    JobshellQuay x = new JobshellQuay();
    int calls = 0;
    for (; calls < 480; calls += 16) {
      CHECKS.due("run", Checks.run(x, "a=${a:-}1;echo "), 0);
    }
    for (; calls < 508; calls += 4) {
      x.clear();
      x.type('$');
      x.type('a');
      CHECKS.due("fields", x.fields(), 1);
    }
    CHECKS.due("fieldAt", x.fieldAt(0, 0), '1');
    CHECKS.due("fieldAnew", x.fieldAnew(0, 0), '1');
    CHECKS.due("flush", x.flush(), 30);
    CHECKS.due("the 512th call", x.clear(), 2);
  }

  private static void atMost120Chars() {
    JobshellQuay x = new JobshellQuay();
    for (int i = 1; i <= 119; i++) {
      x.type('a');
    }
    CHECKS.due("the 120th", x.type('b'), 120);
    CHECKS.thrown("the 121st", IllegalStateException.class, () -> x.type('c'));
    CHECKS.due("fields", x.fields(), 1);
    CHECKS.due("the last char", x.fieldAt(0, 119), 'b');
    CHECKS.due("none behind it", x.fieldAt(0, 120), NONE);
    CHECKS.due("run of 120", x.run(), 127);
    CHECKS.due("the first behind the run", x.type('a'), 1);
    CHECKS.due("clear", x.clear(), 1);
    CHECKS.due("the first behind clear", x.type('a'), 1);
    JobshellQuay y = new JobshellQuay();
    Checks.type(y, Checks.times(";", 120));
    CHECKS.thrown("run", IllegalStateException.class, () -> y.run());
    CHECKS.thrown("still full", IllegalStateException.class, () -> y.type('a'));
  }

  private static void clearTellsHowMany() {
    for (int count : new int[] {0, 1, 2, 119, 120}) {
      JobshellQuay x = new JobshellQuay();
      Checks.type(x, Checks.times("a", count));
      CHECKS.due("clear", x.clear(), count);
      CHECKS.due("clear again", x.clear(), 0);
      CHECKS.due("fault of nothing", x.fault(), 0);
      CHECKS.due("fields of nothing", x.fields(), 0);
    }
    JobshellQuay x = Checks.after("a=1;>f;echo b;f(){ echo c;};set d e", "true&false");
    Checks.type(x, "xyz");
    CHECKS.due("clear", x.clear(), 3);
    CHECKS.due("only the text goes", x.status() + x.files() + x.jobs() + x.size(), 5);
    CHECKS.goesOn(x, "f;echo $a $1 $#", 0, "c/1 d 2/");
  }

  private static void faultPlaces() {
    CHECKS.faultAt("", 0);
    CHECKS.faultAt(";", 0);
    CHECKS.faultAt("a;;", 2);
    CHECKS.faultAt("a;b)", 3);
    CHECKS.faultAt("a;b|", 4);
    fits("a;b");
    JobshellQuay x = new JobshellQuay();
    Checks.type(x, "a|");
    for (int i = 0; i < 3; i++) {
      CHECKS.due("fault changes nothing", x.fault(), 2);
    }
    x.type('b');
    CHECKS.due("fault", x.fault(), NONE);
    CHECKS.due("chars", x.clear(), 3);
  }

  private static void blanksEndWords() {
    for (String text : new String[] {" a", "a ", "a ;b", "a; b", "a &", "a |b",
        "a| b", "a &&b", "a&& b", "( a)", "(a )", "{ a }", "f()  {a}", "f(){ a }",
        "if  a;then b;fi", "while a ; do b ; done", "a >  f", "a=1  b", "  a  b  "}) {
      fits(text);
    }
    CHECKS.faultAt("a & & b", 4);
    CHECKS.faultAt("a | | b", 4);
    CHECKS.faultAt("a & & ", 4);
    CHECKS.faultAt("a > > b", 4);
    CHECKS.faultAt("$ a", 1);
    CHECKS.faultAt("$( (a) ", 7);
    fits("$( (a) )");
    CHECKS.faultAt("$((a)", 5);
    CHECKS.faultAt("$((a) )", 5);
    CHECKS.runs("ec ho", 127, "");
    CHECKS.runs("a =1", 127, "");
    CHECKS.runs("a= 1", 127, "");
    CHECKS.runs("a=b echo a", 0, "a/");
    CHECKS.runs("ech''o a", 0, "a/");
  }

  private static void listsOfAnyLength() {
    CHECKS.runs("echo a", 0, "a/");
    CHECKS.runs("echo a;", 0, "a/");
    CHECKS.runs("echo a;echo b", 0, "a/b/");
    CHECKS.runs("echo a;echo b;", 0, "a/b/");
    fits("a&");
    fits("a&b");
    fits("a&b&");
    fits("a&b;c&d;");
    CHECKS.faultAt("a;;", 2);
    CHECKS.faultAt("a&&&", 3);
    CHECKS.faultAt("a;&", 2);
    CHECKS.faultAt("a&;", 2);
    CHECKS.faultAt(";a", 0);
    CHECKS.faultAt("&a", 0);
    fits(Checks.times("a;", 60));
    fits(Checks.times("a&", 60));
    for (String[] around : new String[][] {{"(", ")"}, {"{", "}"}, {"f(){", "}"}, {"$(", ")"},
        {"if ", " then b;fi"}, {"if a;then ", " fi"}, {"if a;then b;else ", " fi"},
        {"while ", " do b;done"}, {"while a;do ", " done"}}) {
      fits(around[0] + "a;" + around[1]);
      fits(around[0] + "a&" + around[1]);
      fits(around[0] + "a;b;" + around[1]);
      CHECKS.faultAt(around[0] + around[1].trim(), around[0].length());
      CHECKS.faultAt(around[0] + ";" + around[1], around[0].length());
      CHECKS.faultAt(around[0] + "a;;" + around[1], around[0].length() + 2);
    }
  }

  private static void pipesAndAndOrs() {
    fits("a");
    fits("a|b");
    fits("a|b|c");
    fits("a&&b");
    fits("a||b&&c||d");
    fits("a|b&&c|d");
    for (String sign : new String[] {"|", "||", "&&"}) {
      CHECKS.faultAt("a" + sign, 1 + sign.length());
      CHECKS.faultAt("a" + sign + " ", 2 + sign.length());
      CHECKS.faultAt("a" + sign + ";", 1 + sign.length());
      CHECKS.faultAt("(a" + sign + ")", 2 + sign.length());
      CHECKS.faultAt("{a" + sign + "}", 2 + sign.length());
      CHECKS.faultAt(sign + "a", 0);
    }
  }

  private static void simpleHasOneAtLeast() {
    fits("a");
    fits("a=");
    fits(">f");
    fits("<f");
    fits(">>f");
    fits("''");
    fits("$a");
    fits("a=b c=d e f >g <h");
    fits("> f a=1 < g b=2 c");
    CHECKS.faultAt("", 0);
    CHECKS.faultAt("a;|", 2);
    CHECKS.faultAt("a&&;", 3);
  }

  private static void toldWordsAreWhole() {
    for (String word : new String[] {"then", "else", "fi", "do", "done"}) {
      CHECKS.faultAt(word, 0);
      CHECKS.faultAt(word + " a", 0);
      CHECKS.faultAt(word + ";", 0);
      CHECKS.faultAt(word + ">f", 0);
      CHECKS.faultAt(word + "()", 0);
      CHECKS.faultAt("a;" + word, 2);
      CHECKS.faultAt("(a)" + word, 3);
      CHECKS.faultAt("{a} " + word, 4);
      CHECKS.faultAt("f(){a}" + word, 6);
      for (String behind : new String[] {"x", "1", "=", "*", "''", "\"\"", "\\a", "$a", "{a,b}",
          "-", ",", ":", "#", "+", "?"}) {
        fits(word + behind);
      }
      fits("x" + word);
      fits("''" + word);
      fits(word.substring(0, 1) + "\\" + word.substring(1));
      fits("a " + word);
      fits("a=1 " + word);
      fits(">f " + word);
      fits(">" + word);
      CHECKS.faultAt("(a)" + word + "x", 3);
    }
    for (String word : new String[] {"if", "while"}) {
      CHECKS.faultAt(word, word.length());
      CHECKS.faultAt(word + " ", word.length() + 1);
      CHECKS.faultAt(word + "()", word.length() + 1);
      CHECKS.faultAt(word + ";", word.length());
      CHECKS.faultAt("(a)" + word, 3);
      for (String behind : new String[] {"x", "1", "=", "''", "\\a", "$a", "{a,b}"}) {
        fits(word + behind);
      }
      fits("a " + word);
      fits("a=1 " + word);
      fits("<f " + word);
      fits("x" + word + " a");
    }
  }

  private static void toldWordsWhereTheyStand() {
    fits("if a;then b;fi");
    fits("if a;then b;else c;fi");
    fits("if a&then b&else c&fi&");
    fits("if (a)then {b}else (c)fi");
    fits("if if a;then b;fi then c;fi");
    fits("while while a;do b;done do c;done");
    fits("if a;b;then c;d;else e;f;fi|while g;do h;done");
    fits("if f(){a}then b;fi");
    CHECKS.faultAt("if a;then b;else c;else", 19);
    CHECKS.faultAt("if a;fi", 5);
    CHECKS.faultAt("if a;then b;then", 12);
    CHECKS.faultAt("if a;then b;done", 12);
    CHECKS.faultAt("while a;done", 8);
    CHECKS.faultAt("while a;do b;do", 13);
    CHECKS.faultAt("while a;do b;else", 13);
    CHECKS.faultAt("if a;then b;fi fi", 15);
    CHECKS.faultAt("if a;then b;fi x", 15);
    CHECKS.faultAt("while a;do b;done\"x\"", 20);
    CHECKS.faultAt("if a then b;fi", 12);
    CHECKS.faultAt("if (a)x;then b;fi", 6);
    CHECKS.faultAt("if (a)$x", 6);
    CHECKS.faultAt("if (a)'then", 6);
    CHECKS.faultAt("if (a)then", 10);
    CHECKS.faultAt("if (a);then", 11);
    CHECKS.faultAt("if (a)", 6);
    CHECKS.faultAt("if (a) ", 7);
    CHECKS.faultAt("(if a;then b;)", 13);
    CHECKS.faultAt("{while a;do b;}", 14);
    CHECKS.faultAt("$(if a;)", 7);
  }

  /** Each list may be ended by what stands behind it in its command, and by nothing else. */
  private static void eachListHasItsOwnEnd() {
    String[][] lists = {{"", ""}, {"(", ")"}, {"{", "}"}, {"f(){", "}"}, {"$(", ")"},
        {"if ", "then"}, {"if a;then ", "else", "fi"}, {"if a;then b;else ", "fi"},
        {"while ", "do"}, {"while a;do ", "done"}};
    String[] ends = {")", "}", "then", "else", "fi", "do", "done"};
    for (String[] list : lists) {
      for (String inner : new String[] {"a;", "(a)", "{a} ", "a&", "if b;then c;fi "}) {
        String text = list[0] + inner;
        for (String end : ends) {
          boolean may = false;
          for (int i = 1; i < list.length; i++) {
            may |= list[i].equals(end);
          }
          JobshellQuay x = new JobshellQuay();
          Checks.type(x, text + end);
          boolean whole = may && "})fidone".contains(end) && !end.equals("do");
          int due = whole ? NONE : may ? text.length() + end.length() : text.length();
          CHECKS.due("fault of " + text + end, x.fault(), due);
        }
      }
    }
  }

  private static void afterAFault() {
    JobshellQuay x = new JobshellQuay();
    for (String text : new String[] {"a b 'c", "a>b c=d e{f", "a $(b $(c d", "a=b c=d >e {",
        "((a|b&&c", "if a;then b", "\"${a:-\"b", "f(){a b c", "a {b,{c,d"}) {
      Checks.type(x, text);
      CHECKS.due("fault of " + text, x.fault() != NONE ? 1 : 0, 1);
      CHECKS.thrown("run of " + text, IllegalStateException.class, () -> x.run());
      CHECKS.due("fields of " + text, x.fields(), NONE);
      x.clear();
      CHECKS.goesOn(x, "a=1 >f b=2;echo $a $(echo c)", 0, "1 c/");
      CHECKS.gives(x, "a {b,c}", "a", "b", "c");
    }
  }

  private static void braces() {
    fits("{a}");
    fits("{ a}");
    fits("{a }");
    fits("{a,b}");
    fits("{{a}}");
    fits("{ {a,b}; }");
    fits("a|{b}");
    fits("a&&{b}");
    fits("if {a}then b;fi");
    CHECKS.faultAt("}", 0);
    CHECKS.faultAt("a}", 1);
    CHECKS.faultAt("a }", 2);
    CHECKS.faultAt("a;}", 2);
    CHECKS.faultAt("(a}", 2);
    CHECKS.faultAt("{a", 2);
    CHECKS.faultAt("{", 1);
    CHECKS.faultAt("{}", 1);
    CHECKS.faultAt("{a}}", 3);
    CHECKS.faultAt("{a}b", 3);
    CHECKS.faultAt("{a}{b}", 3);
    CHECKS.faultAt("{a}>f", 3);
    CHECKS.faultAt("{a}a=1", 3);
    CHECKS.runs("{echo,a}", 127, "");
    CHECKS.runs("{echo a,b}", 0, "a,b/");
    CHECKS.runs("x= {echo,a,b}", 0, "a b/");
    CHECKS.runs("true&&{echo a}", 0, "a/");
    CHECKS.runs("{ echo }", 0, "/");
    CHECKS.runs("{ echo {a,b} }", 0, "a b/");
    CHECKS.runs("{ echo \\} }", 0, "}/");
  }

  private static void definitions() {
    fits("f(){a}");
    fits("abcdefghijklmnopqrstuvwxyz(){a}");
    fits("f() {a}");
    fits("f(){a;}");
    fits("f(){g(){a}}");
    fits("ifx(){a}");
    CHECKS.faultAt("()", 1);
    CHECKS.faultAt("f (){a}", 2);
    CHECKS.faultAt("f( ){a}", 2);
    CHECKS.faultAt("f()", 3);
    CHECKS.faultAt("f()a", 3);
    CHECKS.faultAt("f() (a)", 4);
    CHECKS.faultAt("f(){}", 4);
    CHECKS.faultAt("f(){a", 5);
    CHECKS.faultAt("f(){a)", 5);
    CHECKS.faultAt("f1(){a}", 2);
    CHECKS.faultAt("1(){a}", 1);
    CHECKS.faultAt("'f'(){a}", 3);
    CHECKS.faultAt("f=(){a}", 2);
    CHECKS.faultAt("a=1 f(){a}", 5);
    CHECKS.faultAt(">g f(){a}", 4);
    CHECKS.faultAt("if(){a}", 3);
    CHECKS.faultAt("do(){a}", 0);
    CHECKS.faultAt("f(){a}b", 6);
  }

  private static void assignments() {
    CHECKS.runs("a=;b=1;echo $b$a", 0, "1/");
    CHECKS.runs("a=1 b=2;echo $a$b", 0, "12/");
    CHECKS.runs("a=1 b=2 echo c=3;echo $a$b$c", 0, "c=3/12/");
    CHECKS.runs("a==;echo $a", 0, "=/");
    CHECKS.runs("z=1;echo $z", 0, "1/");
    CHECKS.runs("aa=1", 127, "");
    CHECKS.runs("1=1", 127, "");
    CHECKS.runs("'a'=1", 127, "");
    CHECKS.runs("\\a=1", 127, "");
    CHECKS.runs("a'='1", 127, "");
    CHECKS.runs(">f a=1 >f b=2;echo $a$b", 0, "12/");
    fits("a=");
    CHECKS.faultAt("a={", 2);
    CHECKS.faultAt("a={b,c}", 2);
    CHECKS.faultAt("a=b{", 3);
    CHECKS.faultAt("a=(", 2);
    CHECKS.faultAt("a=${b:-{", 7);
    fits("a='{'");
    fits("a=\"{\"");
    fits("a=\\{");
    fits("a=$({b})");
    fits("a= {b,c}");
    fits("b a={c,d}");
  }

  private static void redirections() {
    for (String sign : new String[] {">", ">>", "<"}) {
      int length = sign.length();
      fits(sign + "f");
      fits(sign + " f");
      fits("a" + sign + "f");
      fits("a " + sign + " f b");
      fits(sign + "''");
      fits(sign + "$a");
      fits(sign + "if");
      CHECKS.faultAt(sign, length);
      CHECKS.faultAt(sign + " ", length + 1);
      CHECKS.faultAt("a" + sign + ";", length + 1);
      CHECKS.faultAt("a" + sign + ")", length + 1);
      CHECKS.faultAt("a" + sign + "&f", length + 1);
      CHECKS.faultAt("a" + sign + "(b)", length + 1);
      CHECKS.faultAt("a" + sign + "<b", length + 1);
      CHECKS.faultAt("a" + sign + "{", length + 1);
      CHECKS.faultAt("a" + sign + "b{c,d}", length + 2);
    }
    CHECKS.faultAt(">>>", 2);
    CHECKS.faultAt("<>", 1);
  }

  private static void quotes() {
    fits("''");
    fits("'a'");
    fits("'\"\\$;&|(){}<> '");
    fits("\"\"");
    fits("\"a\"");
    fits("\"';&|(){}<> \"");
    fits("\\\\");
    fits("\\ ");
    fits("\\;");
    CHECKS.faultAt("\\", 1);
    CHECKS.faultAt("a\\", 2);
    CHECKS.faultAt("'\\''", 4);
    fits("\"\\\"\"");
    CHECKS.faultAt("\"\\\\\"\"", 5);
    fits("\"\\a\"");
    CHECKS.faultAt("\"$\"", 2);
    fits("\"\\$\"");
    CHECKS.runs("echo \"\\a\\'\\ \\;\\\"\\\\\\$\"", 0, "\\a\\'\\ \\;\"\\$/");
  }

  private static void choices() {
    CHECKS.faultAt("a {b}", 4);
    fits("a {b,c}");
    fits("a {b,c,d}");
    fits("a {,}");
    fits("a {,,}");
    CHECKS.faultAt("a {}", 3);
    CHECKS.faultAt("a {", 3);
    CHECKS.faultAt("a {,", 4);
    CHECKS.faultAt("a {b c,d}", 4);
    CHECKS.faultAt("a {b,c;", 6);
    CHECKS.faultAt("a {{b},c}", 5);
    fits("a {{b,c},d}");
    CHECKS.faultAt("a {b','}", 7);
    CHECKS.faultAt("a {b\\,}", 6);
    CHECKS.faultAt("a {b\",\"}", 7);
    CHECKS.faultAt("a {${b:-c,d}}", 12);
    CHECKS.faultAt("a {$((1,2))}", 11);
    CHECKS.faultAt("a {$(b c,d)}", 11);
    fits("a {$(b c,d),e}");
    CHECKS.faultAt("a {{b,c}}", 8);
  }

  private static void things() {
    CHECKS.faultAt("a $0", 3);
    fits("a $1");
    fits("a $9");
    fits("a $10");
    fits("a $a");
    fits("a $z");
    fits("a $zz");
    fits("a $#");
    fits("a $?");
    CHECKS.faultAt("a $", 3);
    CHECKS.faultAt("a $$", 3);
    CHECKS.faultAt("a $'b'", 3);
    CHECKS.faultAt("a $\"b\"", 3);
    CHECKS.faultAt("a $\\b", 3);
    CHECKS.faultAt("a $=", 3);
    CHECKS.faultAt("a $:", 3);
    CHECKS.faultAt("a $)", 3);
    CHECKS.faultAt("a $()", 4);
    fits("a $(b)");
    fits("a $( b )");
    CHECKS.faultAt("a $(b", 5);
    CHECKS.faultAt("a $(b;", 6);
    CHECKS.faultAt("a $(b))", 6);
  }

  private static void braceThings() {
    fits("a ${b}");
    fits("a ${#b}");
    fits("a ${b:-}");
    fits("a ${b:+}");
    fits("a ${b:-c}");
    fits("a ${b:-$(c;d)}");
    fits("a ${b:-${c:+${d:-e}}}");
    CHECKS.faultAt("a ${}", 4);
    CHECKS.faultAt("a ${1}", 4);
    CHECKS.faultAt("a ${ b}", 4);
    CHECKS.faultAt("a ${b }", 5);
    CHECKS.faultAt("a ${bb}", 5);
    CHECKS.faultAt("a ${#}", 5);
    CHECKS.faultAt("a ${##}", 5);
    CHECKS.faultAt("a ${#1}", 5);
    CHECKS.faultAt("a ${#bb}", 6);
    CHECKS.faultAt("a ${#b:-}", 6);
    CHECKS.faultAt("a ${?}", 4);
    CHECKS.faultAt("a ${b-c}", 5);
    CHECKS.faultAt("a ${b:}", 6);
    CHECKS.faultAt("a ${b:=c}", 6);
    CHECKS.faultAt("a ${b:-c d}", 8);
    CHECKS.faultAt("a ${b:-c)", 8);
    CHECKS.faultAt("a ${b:-c", 8);
    CHECKS.faultAt("a ${b:-{c,d}}", 7);
    CHECKS.faultAt("a ${b:-c{d,e}}", 8);
    CHECKS.faultAt("a {${b:-{c,d}},e}", 8);
    fits("a ${b:-'{'\"{\"\\{}");
    fits("a \"${b:-'\"'}\"");
    fits("a \"${b:-\"c\"}\"");
    CHECKS.faultAt("a \"${b:-c d}\"", 9);
    fits("a \"${b:-'c d'}\"");
    CHECKS.faultAt("a \"${b:-'c}\"", 12);
  }

  private static void sums() {
    fits("a $(())");
    fits("a $((1))");
    fits("a $(( ; & | { } $ ' \" \\ > < ))");
    CHECKS.faultAt("a $((", 5);
    CHECKS.faultAt("a $((1", 6);
    CHECKS.faultAt("a $((1)", 7);
    CHECKS.faultAt("a $((1)a", 7);
    CHECKS.faultAt("a $((1) )", 7);
    CHECKS.faultAt("a $((1()))", 6);
    CHECKS.faultAt("a $(((1))", 5);
    fits("a \"$((\"))\"");
    fits("a {$((,)),}");
  }

  private static void longestSignsFirst() {
    CHECKS.faultAt("a&&&b", 3);
    CHECKS.faultAt("a|||b", 3);
    CHECKS.faultAt("a>>>b", 3);
    fits("a&&b");
    fits("a||b");
    fits("a>>b");
    CHECKS.faultAt("a $((b);c)", 7);
    fits("a $( (b);c)");
    CHECKS.faultAt("a $((b)&&c)", 7);
    fits("$((1))");
    CHECKS.runs("false||echo a", 0, "a/");
    CHECKS.runs("echo a|| echo b", 0, "a/");
    CHECKS.runs("echo a| cat", 0, "a/");
  }

  private static void endsOfQuotes() {
    for (String text : new String[] {"'", "a '", "a 'b", "a 'b;c)d", "a '\"", "\"", "a \"",
        "a \"b", "a \"b;c)d", "a \"'", "a \"b\\\"", "a '$(", "a \"$b", "a \"${b}", "a {b,'c",
        "a {b,\"c", "a ${b:-'c", "a ${b:-\"c", "a \"$(b)", "$('", "$(\"", "if 'a", "a>'", "a=\""}) {
      CHECKS.faultAt(text, text.length());
    }
  }

  private static void atTheEndOfAFullText() {
    String blanks = Checks.times(" ", 117);
    fits(blanks + "a|b");
    CHECKS.faultAt(blanks + "a;;", 119);
    CHECKS.faultAt(blanks + "ab|", 120);
    CHECKS.faultAt(blanks + "ab'", 120);
    CHECKS.faultAt(blanks + "ab\\", 120);
    CHECKS.faultAt(blanks + "ab$", 120);
    CHECKS.faultAt(blanks + "a$(", 120);
    CHECKS.faultAt(blanks + "ab)", 119);
    CHECKS.faultAt(blanks + " if", 120);
    CHECKS.faultAt(blanks + " do", 118);
    CHECKS.faultAt(blanks + "   ", 120);
    CHECKS.faultAt(Checks.times(" ", 119), 119);
    fits(Checks.times(" ", 119) + "a");
    fits("a" + Checks.times(" ", 119));
    fits("'" + Checks.times(" ", 118) + "'");
    CHECKS.faultAt("'" + Checks.times(" ", 119), 120);
  }
}
