import java.io.IOException;
import java.lang.reflect.Constructor;
import java.lang.reflect.Executable;
import java.lang.reflect.Field;
import java.lang.reflect.Method;
import java.lang.reflect.Modifier;
import java.nio.file.Files;
import java.nio.file.Path;
import java.util.ArrayList;
import java.util.List;
import java.util.Set;
import java.util.TreeSet;
import java.util.regex.Matcher;
import java.util.regex.Pattern;

/** Those rules of ../shared/LANGUAGE.md that the source and its classes show. */
final class LanguageTest {
  private static final Checks CHECKS = new Checks("LanguageTest");
  private static final Path SOURCE = Path.of("src/main/java/JobshellQuay.java");
  private static final int LINES_MOST = 60, CLASSES_MOST = 12, FIELDS_MOST = 20, PARAMS_MOST = 7;

  public static void main(String[] args) throws IOException {
    String source = Files.readString(SOURCE);
    String code = bare(source);
    List<Class<?>> classes = new ArrayList<>();
    classes.add(JobshellQuay.class);
    classes.addAll(List.of(JobshellQuay.class.getDeclaredClasses()));
    names(classes);
    classesInside(classes);
    types(code, classes);
    library(code);
    staticFields(classes);
    exceptions(source, code);
    methods(source, classes);
    CHECKS.end();
  }

  private static void none(String what, boolean there) {
    CHECKS.due(what, there ? 1 : 0, 0);
  }

  /** The code without its comments, and with empty texts. */
  private static String bare(String source) {
    return source.replaceAll("(?s)/\\*.*?\\*/", " ")
        .replaceAll("'(\\\\.|[^\\\\'])'", "'c'")
        .replaceAll("\"(\\\\.|[^\\\\\"])*\"", "\"\"")
        .replaceAll("//[^\\n]*", " ");
  }

  private static boolean has(String code, String pattern) {
    return Pattern.compile(pattern).matcher(code).find();
  }

  /** Rule 1: no private method bears the name of a public one. */
  private static void names(List<Class<?>> classes) {
    Set<String> face = new TreeSet<>();
    for (Method method : JobshellQuay.class.getDeclaredMethods()) {
      if (Modifier.isPublic(method.getModifiers())) {
        face.add(method.getName());
      }
    }
    for (Class<?> one : classes) {
      for (Method method : one.getDeclaredMethods()) {
        boolean open = Modifier.isPublic(method.getModifiers());
        none(method + " bears a name of the face", !open && face.contains(method.getName()));
        none(method + " is open", open && one != JobshellQuay.class);
      }
    }
  }

  /** Rules 2 and 11: static classes inside, some twelve, with some twenty fields each. */
  private static void classesInside(List<Class<?>> classes) {
    none("too many classes", classes.size() > CLASSES_MOST);
    for (Class<?> one : classes) {
      int fields = 0;
      for (Field field : one.getDeclaredFields()) {
        fields += Modifier.isStatic(field.getModifiers()) ? 0 : 1;
      }
      none(one + " has too many fields", fields > FIELDS_MOST);
      none(one + " has classes of its own",
          one != JobshellQuay.class && one.getDeclaredClasses().length > 0);
      none(one + " is not static or open", one != JobshellQuay.class
          && (!Modifier.isStatic(one.getModifiers()) || Modifier.isPublic(one.getModifiers())));
    }
  }

  /** Rules 2, 3, 6 and 10: what the code does not use. */
  private static void types(String code, List<Class<?>> classes) {
    for (String word : new String[] {"finally", "synchronized", "assert", "native", "volatile",
        "transient", "package", "yield", "record", "sealed", "var", "Object", "Map", "Set",
        "Thread", "Random", "double", "float"}) {
      none("the word " + word, has(code, "\\b" + word + "\\b"));
    }
    none("a lambda", code.contains("->"));
    none("a method reference", code.contains("::"));
    none("texts joined by +", has(code, "\"\" *\\+|\\+ *\"\""));
    none("== of texts", has(code, "[=!]= *\"\"|\"\" *[=!]="));
    none("a static block", has(code, "static *\\{"));
    none("a loop without a bound", has(code, "while *\\( *true|for *\\( *;"
        + " *;"));
    Pattern own = Pattern.compile("(\\[*)(L?JobshellQuay.*;?|int|char|boolean|long|java.lang.String"
        + "|\\[\\[?[ICZ])");
    for (Class<?> one : classes) {
      for (Field field : one.getDeclaredFields()) {
        String type = field.getType().getName();
        none(field + " is of another type", !own.matcher(type).matches());
      }
    }
  }

  /** Rule 4: the library. */
  private static void library(String code) {
    Matcher imported = Pattern.compile("import ([^;]*);").matcher(code);
    while (imported.find()) {
      CHECKS.due("an import", imported.group(1), "java.util.Arrays");
    }
    Set<String> allowed = Set.of("Math.max", "Math.min", "Math.floorMod", "System.arraycopy",
        "Arrays.copyOf", "Arrays.fill");
    Matcher used = Pattern.compile("\\b(Math|System|Arrays|String|Integer|Long|Character)\\.\\w+")
        .matcher(code);
    while (used.find()) {
      none(used.group(), !allowed.contains(used.group()) && !used.group().contains(".util."));
    }
    CHECKS.due("signs above 127", code.chars().filter(c -> c > 127).count(), 0);
  }

  /** Rule 5: static fields are final constants. */
  private static void staticFields(List<Class<?>> classes) {
    for (Class<?> one : classes) {
      for (Field field : one.getDeclaredFields()) {
        if (Modifier.isStatic(field.getModifiers())) {
          none(field + " is not final", !Modifier.isFinal(field.getModifiers()));
          Class<?> type = field.getType();
          none(field + " is no constant", type != int.class && type != String.class);
        }
      }
    }
  }

  /** Rule 6: the class throws what the document names, with a written text, and catches nothing. */
  private static void exceptions(String source, String code) {
    none("try", has(code, "\\btry\\b"));
    none("catch", has(code, "\\bcatch\\b"));
    Pattern written = Pattern.compile("throw new (IllegalStateException|IllegalArgumentException"
        + "|IndexOutOfBoundsException)\\(\"[^\"]*\"\\);");
    Matcher thrown = Pattern.compile("throw [^;]*;").matcher(source.replaceAll("//.*", ""));
    while (thrown.find()) {
      none(thrown.group(), !written.matcher(thrown.group()).matches());
    }
  }

  /** Rule 11: parameters, and lines. */
  private static void methods(String source, List<Class<?>> classes) {
    for (Class<?> one : classes) {
      List<Executable> all = new ArrayList<>(List.of(one.getDeclaredMethods()));
      for (Constructor<?> constructor : one.getDeclaredConstructors()) {
        all.add(constructor);
      }
      for (Executable method : all) {
        none(method + " takes too many", method.getParameterCount() > PARAMS_MOST);
      }
    }
    String[] lines = source.split("\n");
    for (int i = 0; i < lines.length; i++) {
      Matcher head = Pattern.compile("( {4}| {8})[a-zA-Z].*\\).*\\{").matcher(lines[i]);
      if (head.matches()) {
        int end = i;
        while (!lines[end].equals(head.group(1) + "}")) {
          end++;
        }
        none(lines[i].trim() + " is too long", end - i + 1 > LINES_MOST);
      }
    }
  }
}
