/** Promises 1 to 4: a new object, type, clear and fault. */
final class TextTest {
  private static final Checks CHECKS = new Checks("TextTest");

  public static void main(String[] args) {
    newObject();
    typing();
    fits();
    faults();
    faultsInWords();
    toldWords();
    deep();
    CHECKS.end();
  }

  private static void newObject() {
    JobshellQuay x = new JobshellQuay();
    CHECKS.due("clear of a new one", x.clear(), 0);
    CHECKS.due("status of a new one", x.status(), 0);
    CHECKS.due("size of a new one", x.size(), 0);
    CHECKS.due("flush of a new one", x.flush(), 0);
    CHECKS.due("files of a new one", x.files(), 0);
    CHECKS.due("jobs of a new one", x.jobs(), 0);
    CHECKS.due("fields of a new one", x.fields(), 0);
    CHECKS.due("fault of a new one", x.fault(), 0);
    for (int name = 0; name < 26; name++) {
      CHECKS.due("value of a new one", x.value(name, 0), -2);
    }
    CHECKS.runs("f", 127, "");
    CHECKS.runs("echo $# $? $1", 0, "0 0/");
    CHECKS.due("NONE", JobshellQuay.NONE, -1);
    CHECKS.due("GOING", JobshellQuay.GOING, 0);
    CHECKS.due("STOPPED", JobshellQuay.STOPPED, 1);
    CHECKS.due("ENDED", JobshellQuay.ENDED, 2);
  }

  private static void typing() {
    String may = "abcdefghijklmnopqrstuvwxyz0123456789 ;&|(){}$'\"\\><=*?+-,#:";
    for (int c = 0; c < 300; c++) {
      JobshellQuay x = new JobshellQuay();
      char typed = (char) c;
      if (may.indexOf(typed) >= 0) {
        CHECKS.due("type of " + c, x.type(typed), 1);
      } else {
        CHECKS.thrown("type of " + c, IllegalArgumentException.class, () -> x.type(typed));
        CHECKS.due("chars after that", x.clear(), 0);
      }
    }
    JobshellQuay x = new JobshellQuay();
    CHECKS.thrown("type of the last char", IllegalArgumentException.class,
        () -> x.type((char) 65535));
    for (int i = 1; i <= 120; i++) {
      CHECKS.due("type", x.type('a'), i);
    }
    CHECKS.thrown("type of a char more", IllegalStateException.class, () -> x.type('a'));
    CHECKS.thrown("type of a wrong char more", IllegalArgumentException.class, () -> x.type('A'));
    CHECKS.due("clear", x.clear(), 120);
    CHECKS.due("clear again", x.clear(), 0);
    CHECKS.due("type again", x.type('b'), 1);
  }

  private static void fits() {
    String[] texts = {"a", " a ", "a;", "a&", "a;b", "a&b&", "a ; b ;", "a&&b||c", "a|b|c",
        "(a)", "( a; )", "{a}", "{ a; }", "{a&}", "(a)|{b}&&c", "if a;then b;fi",
        "if (a)then(b)else {c}fi", "if a;then b;else c;d;fi;e", "while a;do b;done",
        "while {a}do(b)done&", "while(a)do(b)done", "if a;then(b)else(c)fi", "f(){a}",
        "f()  { a; }", "echo(){a};b", "a=", "a=1", "a=1 b= c",
        ">f", "> f", ">>f a", "a<f>g >>h", "a=1 >f b=2 c d=3", "ab=1", "a=="};
    for (String text : texts) {
      CHECKS.faultAt(text, JobshellQuay.NONE);
    }
    String[] words = {"a {b,c}", "a {,}", "a x{b,{c,d},}y", "a 'b {'", "a \"b {\"", "a \\{",
        "a \\ ", "a $b$1$9$#$?", "a ${b}${#b}${b:-}${b:+}", "a ${b:-c'd'\"e\"$f}",
        "a \"${b:-\"c d\"}\"", "a $((1+b))", "a $(())", "a $((;&|{}$'\"))", "a $(b;c)",
        "a \"$(b \"c\")\"", "a {$(b,c),d}", "a {${b:-c,d},e}", "a {b','c,d}", "a \"\\a\\\"\\\\\"",
        "=", "*", "?a", "+", "-", ",", "#", ":", "0", "''", "$a", "a=${b:-c}", ">$a", "a\\&b"};
    for (String text : words) {
      CHECKS.faultAt(text, JobshellQuay.NONE);
    }
  }

  private static void faults() {
    CHECKS.faultAt("", 0);
    CHECKS.faultAt("   ", 3);
    CHECKS.faultAt(";", 0);
    CHECKS.faultAt("a;;", 2);
    CHECKS.faultAt("a;&", 2);
    CHECKS.faultAt("a&;", 2);
    CHECKS.faultAt("a&&", 3);
    CHECKS.faultAt("a&& ", 4);
    CHECKS.faultAt("a&&&b", 3);
    CHECKS.faultAt("a& &b", 3);
    CHECKS.faultAt("a|", 2);
    CHECKS.faultAt("a|||b", 3);
    CHECKS.faultAt("a| |b", 3);
    CHECKS.faultAt("a|&b", 2);
    CHECKS.faultAt("|a", 0);
    CHECKS.faultAt("(", 1);
    CHECKS.faultAt("()", 1);
    CHECKS.faultAt(")", 0);
    CHECKS.faultAt("(a", 2);
    CHECKS.faultAt("(a}", 2);
    CHECKS.faultAt("{a)", 2);
    CHECKS.faultAt("{}", 1);
    CHECKS.faultAt("a)", 1);
    CHECKS.faultAt("a}", 1);
    CHECKS.faultAt("(a)b", 3);
    CHECKS.faultAt("(a)(b)", 3);
    CHECKS.faultAt("(a){b}", 3);
    CHECKS.faultAt("(a) >f", 4);
    CHECKS.faultAt("(a)$b", 3);
    CHECKS.faultAt("a (b)", 2);
    CHECKS.faultAt("f(", 2);
    CHECKS.faultAt("f(a)", 2);
    CHECKS.faultAt("f( )", 2);
    CHECKS.faultAt("f()", 3);
    CHECKS.faultAt("f() ", 4);
    CHECKS.faultAt("f() a", 4);
    CHECKS.faultAt("f()(a)", 3);
    CHECKS.faultAt("f(){", 4);
    CHECKS.faultAt("f(){}", 4);
    CHECKS.faultAt("f ()", 2);
    CHECKS.faultAt("f1()", 2);
    CHECKS.faultAt("\"f\"()", 3);
    CHECKS.faultAt("a f()", 3);
    CHECKS.faultAt("a=1 f()", 5);
    CHECKS.faultAt(">", 1);
    CHECKS.faultAt("> ", 2);
    CHECKS.faultAt("a>;", 2);
    CHECKS.faultAt("a>>>b", 3);
    CHECKS.faultAt("a> >b", 3);
    CHECKS.faultAt("a<>b", 2);
    CHECKS.faultAt("a<<b", 2);
    CHECKS.faultAt("a>{b,c}", 2);
    CHECKS.faultAt("a>b{c,d}", 3);
    CHECKS.faultAt("a={b,c}", 2);
    CHECKS.faultAt("a=b{c,d}", 3);
  }

  private static void faultsInWords() {
    CHECKS.faultAt("a {b}", 4);
    CHECKS.faultAt("a {b", 4);
    CHECKS.faultAt("a {b,c", 6);
    CHECKS.faultAt("a {b, c}", 5);
    CHECKS.faultAt("a {b;c}", 4);
    CHECKS.faultAt("echo x{a{bc}}1", 11);
    CHECKS.faultAt("a 'b", 4);
    CHECKS.faultAt("a 'b;c ", 7);
    CHECKS.faultAt("a \"b", 4);
    CHECKS.faultAt("a \"b\\\"", 6);
    CHECKS.faultAt("a \\", 3);
    CHECKS.faultAt("a $", 3);
    CHECKS.faultAt("a $ b", 3);
    CHECKS.faultAt("a $0", 3);
    CHECKS.faultAt("a $*", 3);
    CHECKS.faultAt("a \"$\"", 4);
    CHECKS.faultAt("a ${", 4);
    CHECKS.faultAt("a ${1}", 4);
    CHECKS.faultAt("a ${}", 4);
    CHECKS.faultAt("a ${b", 5);
    CHECKS.faultAt("a ${bc}", 5);
    CHECKS.faultAt("a ${b-c}", 5);
    CHECKS.faultAt("a ${b:c}", 6);
    CHECKS.faultAt("a ${b:", 6);
    CHECKS.faultAt("a ${b:-c", 8);
    CHECKS.faultAt("a ${b:-c d}", 8);
    CHECKS.faultAt("a ${b:-{c,d}}", 7);
    CHECKS.faultAt("a \"${b:-{c,d}}\"", 8);
    CHECKS.faultAt("a ${b:-c;}", 8);
    CHECKS.faultAt("a ${#}", 5);
    CHECKS.faultAt("a ${#b:-c}", 6);
    CHECKS.faultAt("a ${#bc}", 6);
    CHECKS.faultAt("a $((", 5);
    CHECKS.faultAt("a $((1", 6);
    CHECKS.faultAt("a $((1)", 7);
    CHECKS.faultAt("a $((1)2)", 7);
    CHECKS.faultAt("a $((1(", 6);
    CHECKS.faultAt("a $((b);c)", 7);
    CHECKS.faultAt("a $(", 4);
    CHECKS.faultAt("a $()", 4);
    CHECKS.faultAt("a $(b", 5);
    CHECKS.faultAt("a $(b}", 5);
    CHECKS.faultAt("a $(b;;", 6);
    CHECKS.faultAt("a \"$(b\"", 7);
    CHECKS.faultAt("a {b,$(c", 8);
  }

  private static void toldWords() {
    CHECKS.faultAt("if a", 4);
    CHECKS.faultAt("if", 2);
    CHECKS.faultAt("if;", 2);
    CHECKS.faultAt("if then", 3);
    CHECKS.faultAt("if a;then b", 11);
    CHECKS.faultAt("if a;then b;fi c", 15);
    CHECKS.faultAt("if a;then b;else c;else d;fi", 19);
    CHECKS.faultAt("if a;else", 5);
    CHECKS.faultAt("if a;do", 5);
    CHECKS.faultAt("if (a)thex", 6);
    CHECKS.faultAt("if (a)then2", 6);
    CHECKS.faultAt("if (a)'then'", 6);
    CHECKS.faultAt("while{a}do b;done", 7);
    CHECKS.faultAt("if (a)then(b)else{c}fi", 13);
    CHECKS.faultAt("while a;then", 8);
    CHECKS.faultAt("while a;do b;fi", 13);
    CHECKS.faultAt("while a;do;done", 10);
    CHECKS.faultAt("done", 0);
    CHECKS.faultAt("then", 0);
    CHECKS.faultAt(" else", 1);
    CHECKS.faultAt("a;fi", 2);
    CHECKS.faultAt("a&&do", 3);
    CHECKS.faultAt("a|done;b", 2);
    CHECKS.faultAt("(a)fi", 3);
    CHECKS.faultAt("(a) then", 4);
    CHECKS.faultAt("if()", 3);
    CHECKS.faultAt("fi()", 0);
    String[] words = {"a if then fi", "'if' a", "\\if", "if1 a", "if=a", "ifx", "fi1", "fi=",
        "\"do\"",
        "a=1 if", ">f if", "a then", "if{a,b}", "if a>fi;then b;fi", "if(a)then b;fi",
        "if>f;then>f;fi", "while a;do b;done;c", "of a", "xhile b", "khen", "mlse;ii;xo;gone"};
    for (String text : words) {
      CHECKS.faultAt(text, JobshellQuay.NONE);
    }
  }

  private static String times(String part, int count) {
    StringBuilder all = new StringBuilder();
    for (int i = 0; i < count; i++) {
      all.append(part);
    }
    return all.toString();
  }

  private static void deep() {
    CHECKS.faultAt(times("(", 120), 120);
    CHECKS.faultAt(times("{", 120), 120);
    CHECKS.faultAt("a" + times("{", 119), 120);
    CHECKS.faultAt(times("$(", 60), 120);
    CHECKS.faultAt(times("\"$(", 40), 120);
    CHECKS.faultAt(times("${a:-", 24), 120);
    CHECKS.faultAt(times("\"${a:-", 20), 120);
    CHECKS.faultAt(times("if ", 40), 120);
    CHECKS.faultAt(times("a;", 60), JobshellQuay.NONE);
    CHECKS.faultAt(times("a&&", 40), 120);
    CHECKS.faultAt(times("(", 59) + "a" + times(")", 59), JobshellQuay.NONE);
    CHECKS.faultAt(times("{", 59) + "a" + times("}", 60), 119);
    CHECKS.faultAt("a" + times("{,", 39) + times("}", 40), 118);
    JobshellQuay x = new JobshellQuay();
    Checks.type(x, "a $(b \"${c:-'d'}" + times("(", 90));
    for (int i = 0; i < 300; i++) {
      CHECKS.due("the same fault again", x.fault(), 106);
    }
    CHECKS.runs(times("{", 58) + "echo" + times("}", 58), 0, "/");
  }
}
