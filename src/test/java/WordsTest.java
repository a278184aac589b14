/** Promises 19 to 21: fields, fieldAt and fieldAnew; and how words are expanded. */
final class WordsTest {
  private static final Checks CHECKS = new Checks("WordsTest");

  public static void main(String[] args) {
    rows();
    places();
    quotes();
    choices();
    things();
    sums();
    cutting();
    patterns();
    bounds();
    nothingChanges();
    CHECKS.end();
  }

  private static JobshellQuay with(String text) {
    JobshellQuay shell = new JobshellQuay();
    Checks.run(shell, text);
    return shell;
  }

  private static void rows() {
    JobshellQuay x = new JobshellQuay();
    CHECKS.gives(x, "");
    CHECKS.gives(x, "   ");
    CHECKS.gives(x, "a", "a");
    CHECKS.gives(x, "  a   bc d1  ", "a", "bc", "d1");
    CHECKS.gives(x, "if then a=b done =", "if", "then", "a=b", "done", "=");
    CHECKS.gives(x, "a={b,c} {d,e}", "a=b", "a=c", "d", "e");
    CHECKS.gives(x, "=*?+-,#: 0", "=*?+-,#:", "0");
    String[] none = {"a;", "a&b", "a|b", "(a)", "a)", "a>b", "<a", "{ a }", "{a}", "a}", "a {b",
        "'a", "\"a", "\\", "$", "a $(b)", "\"$(a)\"", "{a,$(b)}", "${a:-$(b)}", "${a:+$(b)}",
        "${a", "$((1)", "a=$(b)", "${a:-{b,c}}"};
    for (String text : none) {
      CHECKS.noRow(text);
    }
  }

  private static void places() {
    JobshellQuay x = new JobshellQuay();
    Checks.type(x, "ab c");
    CHECKS.due("fieldAt(0, 1)", x.fieldAt(0, 1), 'b');
    CHECKS.due("fieldAt(0, 2)", x.fieldAt(0, 2), -1);
    CHECKS.due("fieldAt(1, 0)", x.fieldAt(1, 0), 'c');
    CHECKS.due("fieldAt(2, 0)", x.fieldAt(2, 0), -1);
    CHECKS.due("fieldAt(max, max)", x.fieldAt(Integer.MAX_VALUE, Integer.MAX_VALUE), -1);
    CHECKS.due("fieldAnew(0, 1)", x.fieldAnew(0, 1), 'b');
    CHECKS.due("fieldAnew(0, 2)", x.fieldAnew(0, 2), -1);
    CHECKS.due("fieldAnew(2, 0)", x.fieldAnew(2, 0), -1);
    CHECKS.due("fieldAnew(max, max)", x.fieldAnew(Integer.MAX_VALUE, Integer.MAX_VALUE), -1);
    int[][] wrong = {{-1, 0}, {0, -1}, {-1, -1}, {Integer.MIN_VALUE, 0}, {7, -2}};
    for (int[] pair : wrong) {
      CHECKS.thrown("fieldAt below 0", IndexOutOfBoundsException.class,
          () -> x.fieldAt(pair[0], pair[1]));
      CHECKS.thrown("fieldAnew below 0", IndexOutOfBoundsException.class,
          () -> x.fieldAnew(pair[0], pair[1]));
    }
    Checks.type(x, ";");
    CHECKS.thrown("fieldAt of no row", IndexOutOfBoundsException.class, () -> x.fieldAt(-1, 0));
    CHECKS.thrown("fieldAnew of no row", IndexOutOfBoundsException.class,
        () -> x.fieldAnew(0, -1));
    CHECKS.due("the text still there", x.clear(), 5);
  }

  private static void quotes() {
    JobshellQuay x = with("a='p  q';b=;c=*");
    CHECKS.gives(x, "'a b' \"c d\" e\\ f", "a b", "c d", "e f");
    CHECKS.gives(x, "'' \"\" a''b", "", "", "ab");
    CHECKS.gives(x, "'\"' \"'\" '\\' '$a'", "\"", "'", "\\", "$a");
    CHECKS.gives(x, "\"\\\"\\\\\\$\" \"\\a\\'\" \\\\\\$\\'", "\"\\$", "\\a\\'", "\\$'");
    CHECKS.gives(x, "\"{a,b}\" '{a,b}' \\{a,b\\}", "{a,b}", "{a,b}", "{a,b}");
    CHECKS.gives(x, "$a \"$a\" '' $d", "p", "q", "p  q", "");
    CHECKS.gives(x, "$b \"$b\" ${d:-''} ${a:+\"\"}", "", "", "");
    CHECKS.gives(x, "\"x$a\"y$a", "xp  qyp", "q");
    CHECKS.gives(x, "\\; \\& '|()' \">\" \\ ", ";", "&", "|()", ">", " ");
  }

  private static void choices() {
    JobshellQuay x = with("a='p q'");
    CHECKS.gives(x, "a{b,c}d", "abd", "acd");
    CHECKS.gives(x, "{a,b}{c,d}", "ac", "ad", "bc", "bd");
    CHECKS.gives(x, "{a{1,2},b}{x,y}", "a1x", "a1y", "a2x", "a2y", "bx", "by");
    CHECKS.gives(x, "{,} {,}x a{b,}", "x", "x", "ab", "a");
    CHECKS.gives(x, "{'',}", "");
    CHECKS.gives(x, "{1,2,3,4,5,6,7,8,9} a", "1", "2", "3", "4", "5", "6", "7", "8", "a");
    CHECKS.gives(x, "{1,2,3,4,5}{a,b} z", "1a", "1b", "2a", "2b", "3a", "3b", "4a", "4b", "z");
    CHECKS.gives(x, "{,,,,,,,,a}b", "b", "b", "b", "b", "b", "b", "b", "b");
    CHECKS.gives(x, "{$a,\"$a\"}x", "p", "qx", "p qx");
    CHECKS.gives(x, "{a','b,c\\,d,\",\"}", "a,b", "c,d", ",");
    CHECKS.gives(x, "{${b:-x,y},${a:+,}}", "x,y", ",");
    CHECKS.gives(x, "{a,{b,{c,{d,e}}}}", "a", "b", "c", "d", "e");
    CHECKS.gives(x, "{a,b},{c,d}", "a,c", "a,d", "b,c", "b,d");
    CHECKS.gives(x, "{$((1+2)),#}$#", "30", "#0");
  }

  private static void things() {
    JobshellQuay x = with("a='p q';b=;c=12;set u 'v w' '';false");
    CHECKS.gives(x, "$c ${c} ${#c} ${#a} ${#b} ${#d}", "12", "12", "2", "3", "0", "0");
    CHECKS.gives(x, "\"${a}\" \"${c}\" \"${#a}\" \"$#$?$1\" ${a}", "p q", "12", "3", "31u", "p",
        "q");
    CHECKS.gives(with("a=1"), "${a:-x} ${a:+y} ${b:-z} ${b:+z}", "1", "y", "z");
    CHECKS.gives(x, "\"${d:-x}\"{y,z}$a ${c:-x}'$a'", "xyp", "q", "xzp", "q", "12$a");
    CHECKS.gives(x, "$1 $2 \"$2\" $3 \"$3\" $4 \"$4\" $#", "u", "v", "w", "v w", "", "", "3");
    CHECKS.gives(x, "$?$?", "11");
    CHECKS.gives(x, "${b:-x} ${d:-y} ${c:-z}", "x", "y", "12");
    CHECKS.gives(x, "${b:+x} ${d:+y} ${c:+z}", "z");
    CHECKS.gives(x, "${b:-} ${c:+} ${d:-$a}", "p", "q");
    CHECKS.gives(x, "${d:-\"$a\"} \"${d:-$a}\" \"${d:-'r  s'}\"", "p q", "p q", "r  s");
    CHECKS.gives(x, "${d:-x${b:-y${c:+z}}}", "xyz");
    CHECKS.gives(x, "\"${d:-\"x y\"}z w\"", "x yz w");
    CHECKS.gives(x, "\"${d:-\\a}${d:-b}\" ${d:-\\ }", "ab", " ");
    CHECKS.gives(x, "${d:-x,y}{1,2}", "x,y1", "x,y2");
    CHECKS.gives(x, "$cc$c1 $d$d", "12c121");
    CHECKS.gives(x, "\"$((c+1)) $?\"", "13 1");
    JobshellQuay y = with("a='$b {c,d} \"';b=x");
    CHECKS.gives(y, "$a", "$b", "{c,d}", "\"");
    CHECKS.gives(y, "${e:-$a}", "$b", "{c,d}", "\"");
  }

  private static void sums() {
    JobshellQuay x = with("a=3;b=-4;c=x1;d=1234567890;e=-;f=007;g=' 5'");
    CHECKS.gives(x, "$((1+2*3)) $((2*3+1)) $((1-2-3))", "7", "7", "-4");
    CHECKS.gives(x, "$((a*b)) $((a-b)) $((c)) $((d)) $((e)) $((f)) $((g)) $((z))",
        "-12", "7", "0", "0", "0", "7", "0", "0");
    CHECKS.gives(x, "$((  1  +  a  ))", "4");
    CHECKS.gives(x, "$(()) $((-1)) $((1+)) $((ab)) $((1a)) $((1 2)) $((1++2)) $((#))",
        "0", "0", "0", "0", "0", "0", "0", "0");
    CHECKS.gives(x, "$((1234567890)) $((999999999)) $((000000001))", "0", "999999999", "1");
    CHECKS.gives(x, "$((999999999*999999999)) $((999999999*3))", "808348673", "-1294967299");
    CHECKS.gives(x, "$((65536*32768)) $((65536*32768-1)) $((1-65536*32768*3))",
        "-2147483648", "2147483647", "-2147483647");
    CHECKS.gives(x, "$(($a)) $((1,2)) $((1=1)) $((')) x", "0", "0", "0", "0", "x");
    CHECKS.gives(x, "x$((a))y$((b))", "x3y-4");
    CHECKS.gives(with("a=-4;z=-0;y=--1;x=1-"), "$((a)) $((z)) $((y)) $((x))", "-4", "0", "0", "0");
    CHECKS.gives(x, "$((2*a*b+5*2-a))", "-17");
  }

  private static void cutting() {
    JobshellQuay x = with("a=' p ';b='  ';c=$(echo x;echo;echo y)");
    CHECKS.gives(x, "$a", "p");
    CHECKS.gives(x, "x${a}y", "x", "p", "y");
    CHECKS.gives(x, "$b \"$b\"", "  ");
    CHECKS.gives(x, "''$a''", "", "p", "");
    CHECKS.gives(x, "$c", "x", "y");
    CHECKS.gives(x, "\"$c\"", "x\n\ny");
    CHECKS.gives(x, "$b''$b", "");
    CHECKS.gives(x, "${d:-$a}z", "p", "z");
  }

  private static void patterns() {
    JobshellQuay x = with(">f1;>fa;>g;>'a b';>'*';a='f*';b=*;c='a b'");
    CHECKS.gives(x, "f*", "f1", "fa");
    CHECKS.gives(x, "*", "*", "a b", "f1", "fa", "g");
    CHECKS.gives(x, "?", "*", "g");
    CHECKS.gives(x, "?? f? ??? ????", "f1", "fa", "f1", "fa", "a b", "????");
    CHECKS.gives(x, "'*' \\* \"*\" 'f'* f'*'", "*", "*", "*", "f1", "fa", "f*");
    CHECKS.gives(x, "$a \"$a\" $b", "f1", "fa", "f*", "*", "a b", "f1", "fa", "g");
    CHECKS.gives(x, "*a *a* *1* **1** x* *x", "fa", "a b", "fa", "f1", "f1", "x*", "*x");
    CHECKS.gives(x, "${z:-f*} \"${z:-f*}\" ${z:-'f*'}", "f1", "fa", "f*", "f*");
    CHECKS.gives(x, "$c* a\\ * a\" \"? \\**", "a", "b*", "a b", "a b", "*");
    CHECKS.gives(x, "{f,g}*", "f1", "fa", "g");
    JobshellQuay y = with(">b;>a;>ab;>aab;>abab;>ba");
    CHECKS.gives(y, "*", "a", "aab", "ab", "abab", "b", "ba");
    CHECKS.gives(y, "a*b *ab ?*b a**a*b *?a", "aab", "ab", "abab", "aab", "ab", "abab",
        "aab", "ab", "abab", "aab", "abab", "ba");
    CHECKS.gives(y, "ab*b ba*a b*b aa*ab ?*?*? ??*b", "abab", "ba*a", "b*b", "aa*ab", "aab", "abab",
        "aab", "abab");
    JobshellQuay z = new JobshellQuay();
    CHECKS.gives(z, "* ?", "*", "?");
  }

  private static String times(String part, int count) {
    StringBuilder all = new StringBuilder();
    for (int i = 0; i < count; i++) {
      all.append(part);
    }
    return all.toString();
  }

  private static void bounds() {
    JobshellQuay x = with("a=" + times("1234567890", 5));
    String fifty = times("1234567890", 5);
    CHECKS.gives(x, "$a $a $a x y", fifty, fifty, times("1234567890", 2));
    CHECKS.gives(x, "$a$a 'b'$a x \"y\" '' z\\q $a", fifty + fifty, "b1234567890123456789", "", "",
        "");
    CHECKS.gives(x, "$a$a$a x 'y'z", fifty + fifty + times("1234567890", 2), "");
    CHECKS.gives(x, "$a$a{1,2,3}{a,b}", fifty + fifty + "1a", "123456789012345678");
    JobshellQuay y = new JobshellQuay();
    String[] sixteen = new String[16];
    StringBuilder many = new StringBuilder();
    for (int i = 0; i < 20; i++) {
      many.append((char) ('a' + i)).append(' ');
    }
    for (int i = 0; i < 16; i++) {
      sixteen[i] = "" + (char) ('a' + i);
    }
    CHECKS.gives(y, many.toString(), sixteen);
    JobshellQuay z = with(">a;>b;>c;>d;>e;>f;>g;>h;>i");
    CHECKS.due("files", z.files(), 8);
    CHECKS.gives(z, "x * *", "x", "a", "b", "c", "d", "e", "f", "g", "h", "a", "b", "c", "d", "e",
        "f", "g");
  }

  private static void nothingChanges() {
    JobshellQuay x = with("a=1;echo b>f;echo c;echo d&set e g;exit 3");
    Checks.type(x, "$a $1 $? f* ${b:-x} $((a))");
    for (int i = 0; i < 3; i++) {
      CHECKS.due("fields", x.fields(), 6);
      CHECKS.due("fieldAt", x.fieldAt(3, 0), 'f');
      CHECKS.due("fieldAnew", x.fieldAnew(3, 0), 'f');
    }
    CHECKS.due("status", x.status(), 3);
    CHECKS.due("output", Checks.output(x), "c\n");
    CHECKS.due("files", Checks.files(x), "f=b/ ");
    CHECKS.due("job", x.job(0, 0), JobshellQuay.GOING);
    CHECKS.due("a", Checks.value(x, 'a'), "1");
    CHECKS.due("b", Checks.value(x, 'b'), "nothing");
    CHECKS.due("chars", x.clear(), 26);
    CHECKS.goesOn(x, "echo $# $?", 0, "2 3/");
  }
}
