/** What the tests share: typing texts, reading answers, and counting the wrong ones. */
final class Checks {
  private static final int PLACES = 400;
  private final String test;
  private int made = 0;
  private int wrong = 0;

  Checks(String test) {
    this.test = test;
  }

  void due(String what, long got, long want) {
    made++;
    if (got != want) {
      wrong++;
      System.out.println(test + ": " + what + " answered " + got + ", due is " + want);
    }
  }

  void due(String what, String got, String want) {
    made++;
    if (!got.equals(want)) {
      wrong++;
      System.out.println(test + ": " + what + " answered [" + shown(got) + "], due is ["
          + shown(want) + "]");
    }
  }

  private static String shown(String text) {
    return text.replace("\n", "/");
  }

  interface Call {
    void make();
  }

  /** The call throws an exception of just this class. */
  void thrown(String what, Class<?> want, Call call) {
    String got = "nothing";
    try {
      call.make();
    } catch (RuntimeException e) {
      got = e.getClass().getSimpleName();
    }
    due(what + " throws", got, want.getSimpleName());
  }

  static void type(JobshellQuay shell, String text) {
    for (int i = 0; i < text.length(); i++) {
      shell.type(text.charAt(i));
    }
  }

  static int run(JobshellQuay shell, String text) {
    type(shell, text);
    return shell.run();
  }

  /** A new shell in which these texts were run, one behind the other. */
  static JobshellQuay after(String... texts) {
    JobshellQuay shell = new JobshellQuay();
    for (String text : texts) {
      run(shell, text);
    }
    return shell;
  }

  static String times(String part, int count) {
    return part.repeat(count);
  }

  /** So many chars, of which each tenth tells how many there are. */
  static String chars(int count) {
    return "1234567890".repeat(count / 10 + 1).substring(0, count);
  }

  /** All that can be asked of a shell without a change. */
  static String told(JobshellQuay shell) {
    StringBuilder all = new StringBuilder();
    all.append(shell.status()).append(' ').append(output(shell)).append(' ').append(files(shell));
    for (char name = 'a'; name <= 'z'; name++) {
      all.append(name).append('=').append(value(shell, name)).append(' ');
    }
    for (int job = 0; job < shell.jobs(); job++) {
      for (int what = 0; what < 3; what++) {
        all.append(shell.job(job, what)).append(' ');
      }
    }
    all.append(shell.fault()).append(' ').append(shell.fields());
    for (int field = 0; field < shell.fields(); field++) {
      all.append(' ').append(field(shell, field)).append(' ').append(fieldAnew(shell, field));
    }
    return all.toString();
  }

  static String output(JobshellQuay shell) {
    StringBuilder all = new StringBuilder();
    for (int i = 0; i < shell.size(); i++) {
      all.append(shell.charAt(i));
    }
    return all.toString();
  }

  /** Runs the text in a new shell: its status, then its output, with / for newlines. */
  void runs(String text, int status, String output) {
    JobshellQuay shell = new JobshellQuay();
    due("run of " + text, run(shell, text), status);
    due("status after " + text, shell.status(), status);
    due("output of " + text, output(shell), output.replace('/', '\n'));
  }

  /** The same, in a shell that has run other texts. */
  void goesOn(JobshellQuay shell, String text, int status, String output) {
    shell.flush();
    due("run of " + text, run(shell, text), status);
    due("output of " + text, output(shell), output.replace('/', '\n'));
  }

  void faultAt(String text, int place) {
    JobshellQuay shell = new JobshellQuay();
    type(shell, text);
    due("fault of [" + text + "]", shell.fault(), place);
    if (place != JobshellQuay.NONE) {
      thrown("run of [" + text + "]", IllegalStateException.class, () -> shell.run());
      due("chars after the run of [" + text + "]", shell.clear(), text.length());
    }
  }

  static String field(JobshellQuay shell, int field) {
    StringBuilder all = new StringBuilder();
    for (int i = 0; i < PLACES && shell.fieldAt(field, i) != JobshellQuay.NONE; i++) {
      all.append((char) shell.fieldAt(field, i));
    }
    return all.toString();
  }

  static String fieldAnew(JobshellQuay shell, int field) {
    StringBuilder all = new StringBuilder();
    for (int i = 0; i < PLACES && shell.fieldAnew(field, i) != JobshellQuay.NONE; i++) {
      all.append((char) shell.fieldAnew(field, i));
    }
    return all.toString();
  }

  /** The text gives these fields, both ways; it is cleared. */
  void gives(JobshellQuay shell, String text, String... fields) {
    type(shell, text);
    due("fields of " + text, shell.fields(), fields.length);
    for (int i = 0; i < fields.length; i++) {
      due("field " + i + " of " + text, field(shell, i), fields[i]);
      due("field " + i + " anew of " + text, fieldAnew(shell, i), fields[i]);
    }
    due("field behind the last of " + text, shell.fieldAt(fields.length, 0), JobshellQuay.NONE);
    due("the same anew of " + text, shell.fieldAnew(fields.length, 0), JobshellQuay.NONE);
    shell.clear();
  }

  void noRow(String text) {
    JobshellQuay shell = new JobshellQuay();
    type(shell, text);
    due("fields of " + text, shell.fields(), JobshellQuay.NONE);
    due("a field of " + text, shell.fieldAt(0, 0), JobshellQuay.NONE);
    due("a field anew of " + text, shell.fieldAnew(0, 0), JobshellQuay.NONE);
  }

  static String value(JobshellQuay shell, char name) {
    if (shell.value(name - 'a', 0) == -2) {
      return "nothing";
    }
    StringBuilder all = new StringBuilder();
    for (int i = 0; shell.value(name - 'a', i) >= 0; i++) {
      all.append((char) shell.value(name - 'a', i));
    }
    return all.toString();
  }

  /** All files: name, =, text, with / for newlines, and a blank behind each. */
  static String files(JobshellQuay shell) {
    StringBuilder all = new StringBuilder();
    for (int file = 0; file < shell.files(); file++) {
      for (int i = 0; shell.file(file, i, true) >= 0; i++) {
        all.append((char) shell.file(file, i, true));
      }
      all.append('=');
      for (int i = 0; shell.file(file, i, false) >= 0; i++) {
        all.append((char) shell.file(file, i, false));
      }
      all.append(' ');
    }
    return all.toString().replace('\n', '/');
  }

  /** Runs the text in a new shell: its status, and the files that it leaves. */
  void leaves(String text, int status, String files) {
    JobshellQuay shell = new JobshellQuay();
    due("run of " + text, run(shell, text), status);
    due("files of " + text, files(shell), files);
  }

  void end() {
    System.out.println(test + ": " + made + " answers, " + wrong + " wrong");
    if (wrong != 0) {
      System.exit(1);
    }
  }
}
