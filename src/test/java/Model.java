import java.util.ArrayList;
import java.util.List;
import java.util.Map;
import java.util.TreeMap;

/**
 * A second shell, written from the document alone and another way than the class: a tree that is
 * read by descent, run by descent, with the library's texts, lists and maps. ModelTest compares it
 * with the class.
 */
final class Model {
  static final String CHARS = "abcdefghijklmnopqrstuvwxyz0123456789 ;&|(){}$'\"\\><=*?+-,#:";
  private static final String PLAIN = "abcdefghijklmnopqrstuvwxyz0123456789=*?+-,#:";

  final StringBuilder text = new StringBuilder();
  final StringBuilder output = new StringBuilder();
  final TreeMap<String, String> files = new TreeMap<>();
  final List<Job> jobs = new ArrayList<>();
  final Shell shell = new Shell();
  private int commands;

  static final class Job {
    final List<String> lines = new ArrayList<>();
    int state = 0;
    int status;
  }

  // ---- what is thrown to end more than one thing

  private static final class Fault extends RuntimeException {
    private static final long serialVersionUID = 1L;
    final int place;

    Fault(int place) {
      super(null, null, false, false);
      this.place = place;
    }
  }

  private static class Ends extends RuntimeException {
    private static final long serialVersionUID = 1L;

    Ends() {
      super(null, null, false, false);
    }
  }

  private static final class AllEnds extends Ends {
    private static final long serialVersionUID = 1L;
  }

  private static final class Exits extends Ends {
    private static final long serialVersionUID = 1L;
  }

  private static final class Returns extends Ends {
    private static final long serialVersionUID = 1L;
  }

  private static final class Breaks extends Ends {
    private static final long serialVersionUID = 1L;
  }

  // ---- the tree

  private abstract static class Part { }

  private static final class Chars extends Part {
    final String chars;
    final boolean quoted;

    Chars(String chars, boolean quoted) {
      this.chars = chars;
      this.quoted = quoted;
    }
  }

  private static final class Quotes extends Part {
    final List<Part> parts;

    Quotes(List<Part> parts) {
      this.parts = parts;
    }
  }

  /** n name, p parameter, # count, ? status, l length, - and + with a word, s sum, c command. */
  private static final class Thing extends Part {
    final char kind;
    int which;
    List<Part> word;
    String sum;
    Node list;

    Thing(char kind, int which) {
      this.kind = kind;
      this.which = which;
    }
  }

  private static final class Choices extends Part {
    final List<List<Part>> words = new ArrayList<>();
  }

  private abstract static class Node { }

  private static final class Lists extends Node {
    final List<Node> parts = new ArrayList<>();
    final List<Boolean> behind = new ArrayList<>();
  }

  private static final class AndOr extends Node {
    final List<Node> pipes = new ArrayList<>();
    final List<Boolean> and = new ArrayList<>();
  }

  private static final class Pipe extends Node {
    final List<Node> pieces = new ArrayList<>();
  }

  private static final class Sub extends Node {
    Node list;
  }

  private static final class If extends Node {
    Node list;
    Node then;
    Node other;
  }

  private static final class While extends Node {
    Node list;
    Node body;
  }

  private static final class Definition extends Node {
    String name;
    Node list;
  }

  private static final class Redirection {
    String sign;
    List<Part> word;
  }

  private static final class Assignment {
    int name;
    List<Part> word;
  }

  private static final class Simple extends Node {
    final List<List<Part>> words = new ArrayList<>();
    final List<Redirection> redirections = new ArrayList<>();
    final List<Assignment> assignments = new ArrayList<>();
  }

  // ---- reading

  private static final class Reading {
    static final String CLOSING = " then else fi do done ";
    final String text;
    int at = 0;

    Reading(String text) {
      this.text = text;
    }

    int see(int ahead) {
      return at + ahead < text.length() ? text.charAt(at + ahead) : -1;
    }

    boolean sees(String sign) {
      return text.startsWith(sign, at);
    }

    static boolean letter(int c) {
      return c >= 'a' && c <= 'z';
    }

    static boolean plain(int c) {
      return c >= 0 && PLAIN.indexOf(c) >= 0;
    }

    static boolean inWords(int c) {
      return plain(c) || c == '$' || c == '\'' || c == '"' || c == '\\' || c == '{';
    }

    void blanks() {
      while (see(0) == ' ') {
        at++;
      }
    }

    /** The whole word of letters that is here, or none. */
    String letters() {
      int end = at;
      while (end < text.length() && letter(text.charAt(end))) {
        end++;
      }
      boolean more = end < text.length() && inWords(text.charAt(end));
      return more ? "" : text.substring(at, end);
    }

    boolean closing() {
      String word = letters();
      return !word.isEmpty() && CLOSING.contains(" " + word + " ");
    }

    void take(String word) {
      if (!letters().equals(word)) {
        throw new Fault(at);
      }
      at += word.length();
    }

    void takeChar(char c) {
      if (see(0) != c) {
        throw new Fault(at);
      }
      at++;
    }

    boolean commandBegins() {
      int c = see(0);
      return !closing() && (inWords(c) || c == '(' || c == '>' || c == '<');
    }

    Node wholeText() {
      Node list = list();
      if (at < text.length()) {
        throw new Fault(at);
      }
      return list;
    }

    /** Up to the char with which it cannot go on, at which the caller looks. */
    Node list() {
      Lists list = new Lists();
      blanks();
      do {
        list.parts.add(andOr());
        boolean job = see(0) == '&';
        list.behind.add(job);
        if (see(0) == ';' || job) {
          at++;
          blanks();
        } else {
          return list;
        }
      } while (commandBegins());
      return list;
    }

    Node andOr() {
      AndOr all = new AndOr();
      all.pipes.add(pipe());
      while (sees("&&") || sees("||")) {
        all.and.add(see(0) == '&');
        at += 2;
        blanks();
        all.pipes.add(pipe());
      }
      return all;
    }

    Node pipe() {
      Pipe pipe = new Pipe();
      pipe.pieces.add(command());
      blanks();
      while (see(0) == '|' && see(1) != '|') {
        at++;
        blanks();
        pipe.pieces.add(command());
        blanks();
      }
      return pipe;
    }

    Node command() {
      if (!commandBegins()) {
        throw new Fault(at);
      }
      if (see(0) == '(') {
        at++;
        Sub sub = new Sub();
        sub.list = list();
        takeChar(')');
        return sub;
      }
      if (see(0) == '{') {
        at++;
        Node list = list();
        takeChar('}');
        return list;
      }
      String letters = letters();
      if (letters.equals("if")) {
        return condition();
      }
      if (letters.equals("while")) {
        return loop();
      }
      if (!letters.isEmpty() && see(letters.length()) == '(') {
        return definition(letters);
      }
      return simple();
    }

    Node condition() {
      If node = new If();
      take("if");
      node.list = list();
      take("then");
      node.then = list();
      if (letters().equals("else")) {
        take("else");
        node.other = list();
      }
      take("fi");
      return node;
    }

    Node loop() {
      While node = new While();
      take("while");
      node.list = list();
      take("do");
      node.body = list();
      take("done");
      return node;
    }

    Node definition(String name) {
      Definition node = new Definition();
      node.name = name;
      at += name.length();
      takeChar('(');
      takeChar(')');
      blanks();
      takeChar('{');
      node.list = list();
      takeChar('}');
      return node;
    }

    Node simple() {
      Simple node = new Simple();
      for (;;) {
        int c = see(0);
        if (c == '>' || c == '<') {
          Redirection redirection = new Redirection();
          redirection.sign = sees(">>") ? ">>" : sees(">") ? ">" : "<";
          at += redirection.sign.length();
          blanks();
          if (!inWords(see(0))) {
            throw new Fault(at);
          }
          redirection.word = word('r');
          node.redirections.add(redirection);
        } else if (letter(c) && see(1) == '=' && node.words.isEmpty()) {
          Assignment assignment = new Assignment();
          assignment.name = c - 'a';
          at += 2;
          assignment.word = word('r');
          node.assignments.add(assignment);
        } else if (inWords(c)) {
          node.words.add(word('w'));
        } else {
          return node;
        }
        blanks();
      }
    }

    /** w a word, r one without choices, c one in choices, d one behind :- or :+. */
    List<Part> word(char kind) {
      List<Part> parts = new ArrayList<>();
      for (;;) {
        int c = see(0);
        if (c == '{') {
          if (kind == 'r' || kind == 'd') {
            throw new Fault(at);
          }
          parts.add(choices());
        } else if (c == ',' && kind == 'c' || !inWords(c)) {
          return parts;
        } else if (c == '$') {
          parts.add(thing());
        } else if (c == '\\') {
          at++;
          if (see(0) < 0) {
            throw new Fault(at);
          }
          parts.add(new Chars(text.substring(at, at + 1), true));
          at++;
        } else if (c == '\'') {
          int end = text.indexOf('\'', at + 1);
          if (end < 0) {
            throw new Fault(text.length());
          }
          parts.add(new Chars(text.substring(at + 1, end), true));
          at = end + 1;
        } else if (c == '"') {
          parts.add(quotes());
        } else {
          parts.add(new Chars("" + (char) c, false));
          at++;
        }
      }
    }

    Part choices() {
      Choices choices = new Choices();
      at++;
      choices.words.add(word('c'));
      do {
        takeChar(',');
        choices.words.add(word('c'));
      } while (see(0) == ',');
      takeChar('}');
      return choices;
    }

    Part quotes() {
      List<Part> parts = new ArrayList<>();
      at++;
      while (see(0) != '"') {
        int c = see(0);
        int next = see(1);
        if (c < 0) {
          throw new Fault(at);
        } else if (c == '$') {
          parts.add(thing());
        } else if (c == '\\' && (next == '"' || next == '\\' || next == '$')) {
          parts.add(new Chars("" + (char) next, true));
          at += 2;
        } else {
          parts.add(new Chars("" + (char) c, true));
          at++;
        }
      }
      at++;
      return new Quotes(parts);
    }

    Part thing() {
      at++;
      int c = see(0);
      if (sees("((")) {
        return sum();
      }
      at++;
      if (letter(c)) {
        return new Thing('n', c - 'a');
      } else if (c >= '1' && c <= '9') {
        return new Thing('p', c - '1');
      } else if (c == '#' || c == '?') {
        return new Thing((char) c, 0);
      } else if (c == '{') {
        return braces();
      } else if (c == '(') {
        Thing thing = new Thing('c', 0);
        thing.list = list();
        takeChar(')');
        return thing;
      }
      throw new Fault(at - 1);
    }

    Part sum() {
      Thing thing = new Thing('s', 0);
      at += 2;
      int from = at;
      while (see(0) >= 0 && see(0) != '(' && see(0) != ')') {
        at++;
      }
      thing.sum = text.substring(from, at);
      takeChar(')');
      takeChar(')');
      return thing;
    }

    Part braces() {
      if (see(0) == '#') {
        at++;
        Thing thing = new Thing('l', name());
        takeChar('}');
        return thing;
      }
      int name = name();
      if (see(0) == '}') {
        at++;
        return new Thing('n', name);
      }
      takeChar(':');
      int sign = see(0);
      if (sign != '-' && sign != '+') {
        throw new Fault(at);
      }
      at++;
      Thing thing = new Thing((char) sign, name);
      thing.word = word('d');
      takeChar('}');
      return thing;
    }

    int name() {
      int c = see(0);
      if (!letter(c)) {
        throw new Fault(at);
      }
      at++;
      return c - 'a';
    }
  }

  // ---- what runs

  static final class Function {
    Node list;
  }

  /** The function that runs. */
  private static final class Frame {
    List<String> params;
    final Map<Integer, String> were = new TreeMap<>();
    int loops = 0;
  }

  static final class Shell {
    final String[] names = new String[26];
    List<String> params = new ArrayList<>();
    final Map<String, Function> functions = new TreeMap<>();
    int status = 0;
    private Frame frame;
    private int loops = 0;

    Shell copy() {
      Shell copy = new Shell();
      System.arraycopy(names, 0, copy.names, 0, 26);
      copy.params = new ArrayList<>(paramsNow());
      copy.functions.putAll(functions);
      copy.status = status;
      return copy;
    }

    List<String> paramsNow() {
      return frame == null ? params : frame.params;
    }

    String name(int which) {
      return names[which] == null ? "" : names[which];
    }
  }

  private static final class In {
    String left;

    In(String left) {
      this.left = left;
    }

    String takeAll() {
      String all = left;
      left = "";
      return all;
    }
  }

  private static final class Out {
    final StringBuilder chars;
    final int most;

    Out(StringBuilder chars, int most) {
      this.chars = chars;
      this.most = most;
    }

    static Out other() {
      return new Out(new StringBuilder(), 200);
    }

    void add(String more) {
      chars.append(more);
      if (chars.length() > most) {
        chars.setLength(most);
      }
    }
  }

  private static final class Run {
    final Shell shell;
    final In in;
    final Out out;
    final int deep;

    Run(Shell shell, In in, Out out, int deep) {
      this.shell = shell;
      this.in = in;
      this.out = out;
      this.deep = deep;
    }

    Run deeper(Shell other, In input, Out output) {
      if (deep == 12) {
        throw new AllEnds();
      }
      return new Run(other, input, output, deep + 1);
    }
  }

  private void subshell(Run run, Node node) {
    try {
      go(run, node);
    } catch (Exits e) {
      return;
    }
  }

  private void go(Run run, Node node) {
    Shell shell = run.shell;
    if (node instanceof Lists) {
      Lists list = (Lists) node;
      for (int i = 0; i < list.parts.size(); i++) {
        if (list.behind.get(i)) {
          job(run, list.parts.get(i));
        } else {
          go(run, list.parts.get(i));
        }
      }
    } else if (node instanceof AndOr) {
      AndOr all = (AndOr) node;
      go(run, all.pipes.get(0));
      for (int i = 1; i < all.pipes.size(); i++) {
        if (all.and.get(i - 1) == (shell.status == 0)) {
          go(run, all.pipes.get(i));
        }
      }
    } else if (node instanceof Pipe) {
      pipe(run, (Pipe) node);
    } else if (node instanceof Sub) {
      Shell copy = shell.copy();
      subshell(run.deeper(copy, run.in, run.out), ((Sub) node).list);
      shell.status = copy.status;
    } else if (node instanceof If) {
      If condition = (If) node;
      go(run, condition.list);
      if (shell.status == 0) {
        go(run, condition.then);
      } else if (condition.other != null) {
        go(run, condition.other);
      } else {
        shell.status = 0;
      }
    } else if (node instanceof While) {
      loop(run, (While) node);
    } else if (node instanceof Definition) {
      count();
      Function function = new Function();
      function.list = ((Definition) node).list;
      shell.functions.put(((Definition) node).name, function);
      shell.status = 0;
    } else {
      simple(run, (Simple) node);
    }
  }

  private void count() {
    commands++;
    if (commands > 30) {
      throw new AllEnds();
    }
  }

  private void job(Run run, Node node) {
    Shell copy = run.shell.copy();
    Out out = Out.other();
    subshell(run.deeper(copy, new In(""), out), node);
    if (jobs.size() == 6) {
      throw new AllEnds();
    }
    Job job = new Job();
    job.status = copy.status;
    String rest = out.chars.toString();
    while (!rest.isEmpty()) {
      int end = rest.indexOf('\n') + 1;
      job.lines.add(end == 0 ? rest : rest.substring(0, end));
      rest = end == 0 ? "" : rest.substring(end);
    }
    jobs.add(job);
    run.shell.status = 0;
  }

  private void pipe(Run run, Pipe pipe) {
    if (pipe.pieces.size() == 1) {
      go(run, pipe.pieces.get(0));
      return;
    }
    In in = run.in;
    for (int i = 0; i < pipe.pieces.size(); i++) {
      boolean last = i == pipe.pieces.size() - 1;
      Shell copy = run.shell.copy();
      Out out = last ? run.out : Out.other();
      subshell(run.deeper(copy, in, out), pipe.pieces.get(i));
      if (last) {
        run.shell.status = copy.status;
      } else {
        in = new In(out.chars.toString());
      }
    }
  }

  private static void addLoops(Shell shell, int more) {
    if (shell.frame != null) {
      shell.frame.loops += more;
    } else {
      shell.loops += more;
    }
  }

  private void loop(Run run, While node) {
    Shell shell = run.shell;
    int last = 0;
    addLoops(shell, 1);
    try {
      go(run, node.list);
      while (shell.status == 0) {
        go(run, node.body);
        last = shell.status;
        go(run, node.list);
      }
      shell.status = last;
    } catch (Breaks e) {
      shell.status = 0;
    } finally {
      addLoops(shell, -1);
    }
  }

  // ---- words

  private static final class Item {
    final char c;
    final boolean quoted;
    final boolean given;
    final boolean mark;

    Item(char c, boolean quoted, boolean given, boolean mark) {
      this.c = c;
      this.quoted = quoted;
      this.given = given;
      this.mark = mark;
    }
  }

  /** The expansion of one command: what room its words have, and its last status. */
  private final class Expansion {
    final Run run;
    int room = 120;
    int last = 0;

    Expansion(Run run) {
      this.run = run;
    }

    List<String> fields(List<List<Part>> words) {
      List<String> fields = new ArrayList<>();
      for (List<Part> word : words) {
        List<List<Part>> chosen = new ArrayList<>();
        choose(word, chosen);
        for (List<Part> one : chosen) {
          List<Item> items = new ArrayList<>();
          expand(one, false, false, items);
          cut(items, fields);
        }
      }
      return fields.size() > 16 ? new ArrayList<>(fields.subList(0, 16)) : fields;
    }

    void choose(List<Part> word, List<List<Part>> chosen) {
      for (int i = 0; i < word.size(); i++) {
        if (word.get(i) instanceof Choices) {
          for (List<Part> choice : ((Choices) word.get(i)).words) {
            List<Part> one = new ArrayList<>(word.subList(0, i));
            one.addAll(choice);
            one.addAll(word.subList(i + 1, word.size()));
            choose(one, chosen);
          }
          return;
        }
      }
      if (chosen.size() < 8) {
        chosen.add(word);
      }
    }

    /** Without fields and patterns. */
    String whole(List<Part> word) {
      List<Item> items = new ArrayList<>();
      expand(word, false, false, items);
      return bare(items);
    }

    void put(String chars, boolean quoted, boolean given, List<Item> items) {
      for (int i = 0; i < chars.length() && room > 0; i++) {
        items.add(new Item(chars.charAt(i), quoted, given, false));
        room--;
      }
    }

    void expand(List<Part> parts, boolean quoted, boolean given, List<Item> items) {
      for (Part part : parts) {
        if (part instanceof Chars) {
          Chars chars = (Chars) part;
          if (chars.quoted) {
            items.add(new Item('m', true, given, true));
          }
          put(chars.chars, quoted || chars.quoted, given, items);
        } else if (part instanceof Quotes) {
          items.add(new Item('m', true, given, true));
          expand(((Quotes) part).parts, true, given, items);
        } else {
          Thing thing = (Thing) part;
          if (thing.kind == '-' || thing.kind == '+') {
            boolean has = !run.shell.name(thing.which).isEmpty();
            if (has == (thing.kind == '+')) {
              expand(thing.word, quoted, true, items);
            } else if (has) {
              put(run.shell.name(thing.which), quoted, true, items);
            }
          } else {
            put(value(thing), quoted, true, items);
          }
        }
      }
    }

    String value(Thing thing) {
      Shell shell = run.shell;
      switch (thing.kind) {
        case 'n': return shell.name(thing.which);
        case 'p':
          boolean there = thing.which < shell.paramsNow().size();
          return there ? shell.paramsNow().get(thing.which) : "";
        case '#': return "" + shell.paramsNow().size();
        case '?': return "" + shell.status;
        case 'l': return "" + shell.name(thing.which).length();
        case 's': return "" + sum(shell, thing.sum);
        default: return command(thing.list);
      }
    }

    String command(Node list) {
      Shell copy = run.shell.copy();
      Out out = Out.other();
      subshell(run.deeper(copy, new In(""), out), list);
      last = copy.status;
      String chars = out.chars.toString();
      while (chars.endsWith("\n")) {
        chars = chars.substring(0, chars.length() - 1);
      }
      return chars;
    }

    void cut(List<Item> items, List<String> fields) {
      List<Item> field = new ArrayList<>();
      for (Item item : items) {
        boolean gap = !item.mark && !item.quoted && item.given && (item.c == ' ' || item.c == '\n');
        if (gap) {
          end(field, fields);
          field = new ArrayList<>();
        } else {
          field.add(item);
        }
      }
      end(field, fields);
    }

    void end(List<Item> field, List<String> fields) {
      if (field.isEmpty()) {
        return;
      }
      boolean pattern = false;
      for (Item item : field) {
        pattern |= !item.mark && !item.quoted && (item.c == '*' || item.c == '?');
      }
      boolean some = false;
      if (pattern) {
        for (String name : files.keySet()) {
          if (fits(field, 0, name, 0)) {
            some = true;
            fields.add(name);
          }
        }
      }
      if (!some) {
        fields.add(bare(field));
      }
    }

    boolean fits(List<Item> field, int at, String name, int place) {
      if (at == field.size()) {
        return place == name.length();
      }
      Item item = field.get(at);
      if (item.mark) {
        return fits(field, at + 1, name, place);
      }
      if (!item.quoted && item.c == '*') {
        for (int next = place; next <= name.length(); next++) {
          if (fits(field, at + 1, name, next)) {
            return true;
          }
        }
        return false;
      }
      boolean any = !item.quoted && item.c == '?';
      return place < name.length() && (any || name.charAt(place) == item.c)
          && fits(field, at + 1, name, place + 1);
    }
  }

  private static String bare(List<Item> items) {
    StringBuilder all = new StringBuilder();
    for (Item item : items) {
      if (!item.mark) {
        all.append(item.c);
      }
    }
    return all.toString();
  }

  private static boolean isNumber(String chars) {
    return chars.matches("-?[0-9]{1,9}");
  }

  private static int sum(Shell shell, String chars) {
    if (!chars.matches(" *([a-z]|[0-9]{1,9}) *([-+*] *([a-z]|[0-9]{1,9}) *)*")) {
      return 0;
    }
    String sum = chars.replace(" ", "");
    int total = 0;
    for (String term : sum.replace("-", "+-").split("\\+")) {
      boolean minus = term.startsWith("-");
      int product = 1;
      for (String one : (minus ? term.substring(1) : term).split("\\*")) {
        boolean name = Character.isLetter(one.charAt(0));
        String number = name ? shell.name(one.charAt(0) - 'a') : one;
        product *= isNumber(number) ? Integer.parseInt(number) : 0;
      }
      total += minus ? -product : product;
    }
    return total;
  }

  // ---- simple commands

  private void simple(Run run, Simple node) {
    count();
    Shell shell = run.shell;
    Expansion expansion = new Expansion(run);
    List<String> fields = expansion.fields(node.words);
    In in = run.in;
    String to = null;
    for (Redirection redirection : node.redirections) {
      String name = expansion.whole(redirection.word);
      boolean takes = redirection.sign.equals("<");
      boolean there = files.containsKey(name);
      if (name.isEmpty() || name.length() > 8 || !there && (takes || files.size() == 8)) {
        shell.status = 1;
        return;
      }
      if (takes) {
        in = new In(files.get(name));
      } else {
        to = name;
        if (!there || redirection.sign.equals(">")) {
          files.put(name, "");
        }
      }
    }
    for (Assignment assignment : node.assignments) {
      shell.names[assignment.name] = expansion.whole(assignment.word);
    }
    if (fields.isEmpty()) {
      shell.status = expansion.last;
      return;
    }
    Out out = to == null ? run.out : Out.other();
    try {
      use(new Run(shell, in, out, run.deep), fields);
    } finally {
      if (to != null && (files.containsKey(to) || files.size() < 8)) {
        String all = files.getOrDefault(to, "") + out.chars;
        files.put(to, all.length() > 60 ? all.substring(0, 60) : all);
      }
    }
  }

  private void use(Run run, List<String> fields) {
    Shell shell = run.shell;
    Function function = shell.functions.get(fields.get(0));
    List<String> rest = new ArrayList<>(fields.subList(1, fields.size()));
    if (function != null) {
      call(run, function, rest);
    } else {
      shell.status = tool(run, fields.get(0), rest);
    }
  }

  private void call(Run run, Function function, List<String> params) {
    Shell shell = run.shell;
    Run deeper = run.deeper(shell, run.in, run.out);
    Frame outer = shell.frame;
    Frame frame = new Frame();
    frame.params = params;
    shell.frame = frame;
    try {
      go(deeper, function.list);
    } catch (Returns e) {
      return;
    } finally {
      shell.frame = outer;
      for (Map.Entry<Integer, String> was : frame.were.entrySet()) {
        shell.names[was.getKey()] = was.getValue();
      }
    }
  }

  private int tool(Run run, String tool, List<String> params) {
    Shell shell = run.shell;
    Frame frame = shell.frame;
    switch (tool) {
      case "echo":
        run.out.add(String.join(" ", params) + "\n");
        return 0;
      case "true":
        return 0;
      case "false":
        return 1;
      case "cat":
        run.out.add(run.in.takeAll());
        return 0;
      case "wc":
        run.out.add(run.in.takeAll().length() + "\n");
        return 0;
      case "test":
        return params.size() == 2 && params.get(0).equals(params.get(1)) ? 0 : 1;
      case "set":
        if (frame != null) {
          frame.params = params;
        } else {
          shell.params = params;
        }
        return 0;
      case "shift":
        if (shell.paramsNow().isEmpty()) {
          return 1;
        }
        shell.paramsNow().remove(0);
        return 0;
      case "local":
        return local(shell, params);
      case "rm":
        int missed = 0;
        for (String name : params) {
          missed |= files.remove(name) == null ? 1 : 0;
        }
        return missed;
      case "break":
        if ((frame == null ? shell.loops : frame.loops) > 0) {
          throw new Breaks();
        }
        return 1;
      case "return":
        if (frame == null) {
          return 1;
        }
        shell.status = statusOf(shell, params);
        throw new Returns();
      case "exit":
        shell.status = statusOf(shell, params);
        throw new Exits();
      default:
        return 127;
    }
  }

  private static int local(Shell shell, List<String> params) {
    if (shell.frame == null) {
      return 1;
    }
    for (String name : params) {
      if (name.matches("[a-z]")) {
        int which = name.charAt(0) - 'a';
        if (!shell.frame.were.containsKey(which)) {
          shell.frame.were.put(which, shell.names[which]);
        }
        shell.names[which] = null;
      }
    }
    return 0;
  }

  private static int statusOf(Shell shell, List<String> params) {
    boolean number = !params.isEmpty() && isNumber(params.get(0));
    return number ? Math.floorMod(Integer.parseInt(params.get(0)), 256) : shell.status;
  }

  // ---- the face

  int type(char c) {
    if (CHARS.indexOf(c) < 0) {
      throw new IllegalArgumentException();
    }
    if (text.length() == 120) {
      throw new IllegalStateException();
    }
    text.append(c);
    return text.length();
  }

  int clear() {
    int had = text.length();
    text.setLength(0);
    return had;
  }

  int fault() {
    try {
      new Reading(text.toString()).wholeText();
      return -1;
    } catch (Fault e) {
      return e.place;
    }
  }

  int run() {
    if (fault() >= 0) {
      throw new IllegalStateException();
    }
    Node list = new Reading(text.toString()).wholeText();
    text.setLength(0);
    commands = 0;
    try {
      subshell(new Run(shell, new In(""), new Out(output, 300), 0), list);
    } catch (AllEnds e) {
      shell.status = 126;
    } finally {
      shell.frame = null;
      shell.loops = 0;
    }
    return shell.status;
  }

  int pass(int ticks) {
    if (ticks < 1 || ticks > 50) {
      throw new IllegalArgumentException();
    }
    int lines = 0;
    for (int tick = 0; tick < ticks; tick++) {
      for (Job job : jobs) {
        if (job.state == 0) {
          if (!job.lines.isEmpty()) {
            new Out(output, 300).add(job.lines.remove(0));
            lines++;
          }
          job.state = job.lines.isEmpty() ? 2 : 0;
        }
      }
    }
    return lines;
  }

  private Job goingOrStopped(int number) {
    if (number < 0 || number >= jobs.size()) {
      throw new IndexOutOfBoundsException();
    }
    if (jobs.get(number).state == 2) {
      throw new IllegalStateException();
    }
    return jobs.get(number);
  }

  int turn(int number) {
    Job job = goingOrStopped(number);
    int was = job.state;
    job.state = 1 - was;
    return was;
  }

  int front(int number) {
    Job job = goingOrStopped(number);
    new Out(output, 300).add(String.join("", job.lines));
    job.lines.clear();
    job.state = 2;
    shell.status = job.status;
    return job.status;
  }

  int kill(int number) {
    Job job = goingOrStopped(number);
    int left = job.lines.size();
    job.lines.clear();
    job.state = 2;
    job.status = 137;
    return left;
  }

  /** The fields of the text; null if it is no row of words. */
  List<String> fields() {
    Reading reading = new Reading(text.toString());
    List<List<Part>> words = new ArrayList<>();
    try {
      reading.blanks();
      while (Reading.inWords(reading.see(0))) {
        words.add(reading.word('w'));
        reading.blanks();
      }
    } catch (Fault e) {
      return null;
    }
    if (reading.at < text.length() || commandsIn(words)) {
      return null;
    }
    return new Expansion(new Run(shell, new In(""), Out.other(), 0)).fields(words);
  }

  private static boolean commandsIn(List<List<Part>> words) {
    for (List<Part> word : words) {
      for (Part part : word) {
        if (part instanceof Choices && commandsIn(((Choices) part).words)
            || part instanceof Quotes && commandsIn(List.of(((Quotes) part).parts))) {
          return true;
        }
        if (part instanceof Thing) {
          Thing thing = (Thing) part;
          if (thing.kind == 'c' || thing.word != null && commandsIn(List.of(thing.word))) {
            return true;
          }
        }
      }
    }
    return false;
  }
}
