import java.util.List;

/**
 * The class and the second shell of Model get the same calls, made of a fixed row of numbers, and
 * have to answer the same. With a number as its argument it makes so many sessions more.
 */
final class ModelTest {
  private static final Checks CHECKS = new Checks("ModelTest");
  private static final String[] NAMES = {"a", "b", "c", "d"};
  private static final String[] FILES = {"f", "g", "h", "fa", "ga", "x1", "y", "z", "k", "*",
      "abcdefgh", "abcdefghi", "''", "\"f g\"", "$a", "$b", "\"$c\"", "$(echo f)", "${a:-f}"};
  private static final String[] PLAINS = {"a", "b", "f", "x", "1", "2", "12", "=", "*", "?", "+",
      "-", ",", "#", ":", "f*", "?a", "*a", "echo", "if", "done", "a=1", "-1", "256", "99999",
      "123456789", "1234567890", "qwertyuiopasdfghjklzxcvbnm1234567890"};
  private long state;
  private JobshellQuay x;
  private Model y;
  private String told;

  private ModelTest(long seed) {
    state = seed * 7919L + 20261119L;
    below(3);
  }

  public static void main(String[] args) {
    int sessions = args.length > 0 ? Integer.parseInt(args[0]) : 4000;
    long from = args.length > 1 ? Long.parseLong(args[1]) : 0;
    for (int i = 0; i < sessions; i++) {
      new ModelTest(from + i).session();
    }
    CHECKS.end();
  }

  private int below(int bound) {
    state = state * 6364136223846793005L + 1442695040888963407L;
    return (int) ((state >>> 33) % bound);
  }

  private String one(String... of) {
    return of[below(of.length)];
  }

  // ---- texts

  private String name() {
    return one(NAMES);
  }

  private String sum() {
    StringBuilder sum = new StringBuilder();
    int parts = below(5);
    for (int i = 0; i < parts; i++) {
      sum.append(one(name(), "1", "2", "10", "999999999", "65536", "1234567890", "3"));
      sum.append(one("+", "-", "*", " + ", " ", "+", "*", "-"));
    }
    return sum + one(name(), "1", "7", "", "1 ", "+");
  }

  private String thing(int deep) {
    switch (below(deep > 2 ? 9 : 14)) {
      case 0: case 1: case 2: return "$" + name();
      case 3: return "${" + name() + "}";
      case 4: return one("$1", "$2", "$3", "$9", "$1");
      case 5: return one("$#", "$?");
      case 6: return "${#" + name() + "}";
      case 7: case 8: return "$((" + sum() + "))";
      case 9: case 10:
        return "${" + name() + one(":-", ":+") + one("", word(deep + 1, false)) + "}";
      default: return "$(" + list(deep + 2) + ")";
    }
  }

  private String part(int deep, boolean choices) {
    switch (below(choices && deep < 3 ? 13 : 11)) {
      case 0: case 1: case 2: case 3: return one(PLAINS);
      case 4: case 5: return thing(deep);
      case 6: return "\"" + one("", "a b", "*", "{a,b}", "\\$", "\\a", "'") + one("", thing(deep))
          + one("", " ", "?") + "\"";
      case 7: return "'" + one("", "a", "a b", "*", "\"", "{", "$a", "\\") + "'";
      case 8: return "\\" + one("a", " ", "*", "{", "$", "'", "\"", "\\", ";", ",", "}");
      case 9: return one("", "$" + name());
      case 10: return one("a", "b");
      default:
        StringBuilder all = new StringBuilder("{");
        int words = 2 + (below(6) == 0 ? below(8) : below(2));
        for (int i = 0; i < words; i++) {
          all.append(i == 0 ? "" : ",").append(one("", "a", "b", word(deep + 1, true)));
        }
        return all + "}";
    }
  }

  private String word(int deep, boolean choices) {
    StringBuilder all = new StringBuilder();
    int parts = 1 + below(10) / 7;
    for (int i = 0; i < parts; i++) {
      all.append(part(deep, choices));
    }
    return all.toString();
  }

  private String words(int deep, int most) {
    StringBuilder all = new StringBuilder();
    int words = below(most + 1);
    for (int i = 0; i < words; i++) {
      all.append(' ').append(word(deep, true));
    }
    return all.toString();
  }

  private String tool(int deep) {
    switch (below(22)) {
      case 0: case 1: case 2: case 3: case 4: return "echo" + words(deep, 3);
      case 5: return one("true", "false");
      case 6: return one("cat", "wc");
      case 7: return "cat<" + one(FILES);
      case 8: return one("cat", "wc");
      case 9: return "test" + one(" a a", " $a $b", " $1 x", words(deep, 3));
      case 10: return "set" + words(deep, 4);
      case 11: return "shift";
      case 12: case 13: return "local" + one(" a", " b c", " $1", "");
      case 14: return "rm " + one(FILES);
      case 15: return "break";
      case 16: return "return" + one("", " 3", " -1", " 300", " x");
      case 17: return "exit" + one("", " 3", " -1", " 300", " x");
      case 18: case 19: return one("u", "v") + words(deep, 2);
      case 20: return word(deep, true) + words(deep, 2);
      default: return one("x", "a", "$a");
    }
  }

  private String simple(int deep) {
    StringBuilder all = new StringBuilder();
    int assignments = below(8) < 5 ? 0 : 1 + below(2);
    for (int i = 0; i < assignments; i++) {
      all.append(name()).append('=').append(one("", "1", "2", word(deep, false))).append(' ');
      if (below(8) == 0) {
        all.append(one(">", ">>", "<")).append(one(FILES)).append(' ');
      }
    }
    if (assignments == 0 || below(3) > 0) {
      all.append(tool(deep));
    }
    int redirections = below(8) < 5 ? 0 : 1 + below(9) / 7;
    for (int i = 0; i < redirections; i++) {
      all.append(one("", " ")).append(one(">", ">>", "<", ">", ">>")).append(one("", " "))
          .append(one(FILES));
    }
    return all.toString();
  }

  private String command(int deep) {
    int kind = below(deep > 3 ? 12 : 20);
    switch (kind) {
      case 12: case 13: return "(" + list(deep + 1) + ")";
      case 14: return "{" + one("", " ") + list(deep + 1) + "}";
      case 15: return "if " + ended(deep + 1) + "then " + ended(deep + 1)
          + one("", "else " + ended(deep + 1)) + "fi";
      case 16: return "while " + ended(deep + 1) + "do " + ended(deep + 1) + one("", "break;")
          + "done";
      case 17: return "a=0;while test $a 0;do " + list(deep + 1) + ";a=1;done";
      case 18: case 19: return one("u", "v") + "()" + one("", " ") + "{" + list(deep + 1)
          + one("", ";", "&") + "}";
      default: return simple(deep);
    }
  }

  /** A list with what may stand ahead of a word that is told so. */
  private String ended(int deep) {
    String list = list(deep);
    boolean simple = !list.endsWith(")") && !list.endsWith("}");
    return list + (simple ? one(";", ";", ";", "&", "; ") : one(";", "&", "", "", " "));
  }

  private String list(int deep) {
    StringBuilder all = new StringBuilder(command(deep));
    int more = deep == 0 ? below(5) : below(7) / 4;
    for (int i = 0; i < more; i++) {
      all.append(one(";", ";", ";", "&", "&&", "||", "|", " ; ", " & ", " && "));
      all.append(command(deep));
    }
    return all.toString();
  }

  private String wrong(String text) {
    StringBuilder all = new StringBuilder(text);
    int changes = 1 + below(3);
    for (int i = 0; i < changes; i++) {
      int place = below(all.length() + 1);
      String more = "" + Model.CHARS.charAt(below(Model.CHARS.length()));
      String sign = one(more, more, "$(", "))", "$((", "${a:-", "then", "do", " ", ";", "\"", "'",
          "{", "}", "(", ")", "()");
      if (below(3) == 0 && place < all.length()) {
        all.deleteCharAt(place);
      } else {
        all.insert(place, sign);
      }
    }
    return all.toString();
  }

  private String text() {
    String text = "";
    for (int tries = 0; tries < 10 && (text.isEmpty() || text.length() > 120); tries++) {
      text = below(4) == 0 ? words(0, 6) : list(0);
    }
    if (below(5) == 0) {
      text = wrong(text);
    }
    return text.length() > 120 ? text.substring(0, 120) : text;
  }

  // ---- calls

  private void session() {
    x = new JobshellQuay();
    y = new Model();
    told = "";
    int runs = 1 + below(8);
    for (int i = 0; i < runs; i++) {
      write(text());
      if (y.fault() < 0) {
        due("run", x.run(), y.run());
        same();
      } else {
        x.clear();
        y.clear();
      }
      for (int k = below(4); k > 0 && !y.jobs.isEmpty(); k--) {
        jobCall();
      }
      if (below(4) == 0) {
        due("flush", x.flush(), y.output.length());
        y.output.setLength(0);
      }
    }
  }

  private void due(String what, long got, long want) {
    CHECKS.due(told + ": " + what, got, want);
  }

  private void write(String text) {
    told += " [" + text + "]";
    for (int i = 0; i < text.length(); i++) {
      x.type(text.charAt(i));
      y.type(text.charAt(i));
    }
    List<String> fields = y.fields();
    int first = fields == null || fields.isEmpty() || fields.get(0).isEmpty() ? -1
        : fields.get(0).charAt(0);
    switch (below(3)) {
      case 0: due("fieldAnew", x.fieldAnew(0, 0), first); break;
      case 1: due("fieldAt", x.fieldAt(0, 0), first); break;
      default: break;
    }
    due("fault", x.fault(), y.fault());
    due("fields", x.fields(), fields == null ? -1 : fields.size());
    for (int field = 0; fields != null && field < fields.size(); field++) {
      CHECKS.due(told + ": field " + field, Checks.field(x, field), fields.get(field));
      CHECKS.due(told + ": field anew " + field, Checks.fieldAnew(x, field), fields.get(field));
    }
    int behind = fields == null ? 0 : fields.size();
    due("no field", x.fieldAt(behind, 0), -1);
    due("no field anew", x.fieldAnew(behind, 0), -1);
  }

  private void jobCall() {
    int job = below(y.jobs.size());
    int which = below(5);
    told += " <" + which + " " + job + ">";
    if (which < 2) {
      due("pass", x.pass(which + 1), y.pass(which + 1));
    } else if (y.jobs.get(job).state != 2) {
      switch (which) {
        case 2: due("turn", x.turn(job), y.turn(job)); break;
        case 3: due("front", x.front(job), y.front(job)); break;
        default: due("kill", x.kill(job), y.kill(job)); break;
      }
    }
    same();
  }

  private void same() {
    due("status", x.status(), y.shell.status);
    CHECKS.due(told + ": output", Checks.output(x), y.output.toString());
    StringBuilder files = new StringBuilder();
    for (String name : y.files.keySet()) {
      files.append(name).append('=').append(y.files.get(name)).append(' ');
    }
    CHECKS.due(told + ": files", Checks.files(x), files.toString().replace('\n', '/'));
    for (int name = 0; name < 26; name++) {
      String value = y.shell.names[name] == null ? "nothing" : y.shell.names[name];
      CHECKS.due(told + ": a name", Checks.value(x, (char) ('a' + name)), value);
    }
    due("jobs", x.jobs(), y.jobs.size());
    for (int job = 0; job < y.jobs.size() && job < x.jobs(); job++) {
      due("what a job is", x.job(job, 0), y.jobs.get(job).state);
      due("its status", x.job(job, 1), y.jobs.get(job).status);
      due("its lines", x.job(job, 2), y.jobs.get(job).lines.size());
    }
  }
}
