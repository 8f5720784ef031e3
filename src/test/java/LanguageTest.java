import java.io.IOException;
import java.lang.reflect.Constructor;
import java.lang.reflect.Executable;
import java.lang.reflect.Field;
import java.lang.reflect.Method;
import java.lang.reflect.Modifier;
import java.nio.file.Files;
import java.nio.file.Path;
import java.util.ArrayList;
import java.util.List;
import java.util.Map;
import java.util.Set;
import java.util.TreeSet;
import java.util.regex.Matcher;
import java.util.regex.Pattern;

/**
 * The rules of LANGUAGE.md, by their numbers, as far as they can be seen in the class and in the
 * text of its file. It looks for the part of the language that the class uses, so it refuses some
 * that the rules would allow (a list, an enum, a catch): who comes to need it, adds it here.
 */
public final class LanguageTest {
  private static final Path FILE = Path.of("src/main/java/ScopeKeeper.java");
  private static final int MOST_CLASSES = 12;
  private static final int MOST_FIELDS = 20;
  private static final int MOST_PARAMETERS = 7;
  private static final int MOST_LINES = 60;

  private static final Set<String> THROWN = Set.of("IllegalStateException",
      "IllegalArgumentException", "IndexOutOfBoundsException", "UnsupportedOperationException",
      "NoSuchElementException");
  private static final Map<Integer, List<String>> WORDS_REFUSED = Map.of(
      1, List.of("package", "protected"),
      3, List.of("double", "float", "var", "Object", "Class", "Integer", "String"),
      4, List.of("Math", "System", "Arrays"),
      6, List.of("try", "catch", "finally", "synchronized", "assert", "instanceof", "equals",
          "hashCode", "toString"),
      13, List.of("Random", "Thread", "volatile", "native"));

  private static int wrong = 0;

  public static void main(String[] args) throws IOException {
    String code = withoutRemarks(Files.readString(FILE));
    List<Class<?>> classes = allClasses();
    check(classes.size() <= MOST_CLASSES, 11, "it has " + classes.size() + " classes");
    for (Class<?> type : classes) {
      checkClass(type);
      checkFields(type);
      checkMethods(type);
    }
    checkNames();
    checkWords(code);
    checkThrows(code);
    checkBodies(code);
    if (wrong > 0) {
      System.exit(1);
    }
  }

  private static List<Class<?>> allClasses() {
    List<Class<?>> classes = new ArrayList<>();
    classes.add(ScopeKeeper.class);
    classes.addAll(List.of(ScopeKeeper.class.getDeclaredClasses()));
    return classes;
  }

  private static void checkClass(Class<?> type) {
    int modifiers = type.getModifiers();
    if (type == ScopeKeeper.class) {
      check(Modifier.isPublic(modifiers) && Modifier.isFinal(modifiers), 1, "public and final");
      return;
    }
    boolean hidden = !Modifier.isPublic(modifiers) && !Modifier.isProtected(modifiers);
    check(hidden && Modifier.isStatic(modifiers), 1, type + " is not hidden and static");
    check(type.getDeclaredClasses().length == 0, 2, type + " has classes inside");
  }

  private static void checkFields(Class<?> type) {
    int fields = 0;
    for (Field field : type.getDeclaredFields()) {
      if (Modifier.isStatic(field.getModifiers())) {
        check(Modifier.isFinal(field.getModifiers()) && field.getType() == int.class, 5,
            field + " is no constant of int");
      } else {
        fields++;
        check(isTypeOfRule3(field.getType()), 3, field + " has another type");
      }
    }
    check(fields <= MOST_FIELDS, 11, type + " has " + fields + " fields");
  }

  private static boolean isTypeOfRule3(Class<?> type) {
    Class<?> held = type.isArray() ? type.getComponentType() : type;
    return held == int.class || held == boolean.class || allClasses().contains(held);
  }

  private static void checkMethods(Class<?> type) {
    for (Method method : type.getDeclaredMethods()) {
      checkParameters(method);
    }
    for (Constructor<?> constructor : type.getDeclaredConstructors()) {
      checkParameters(constructor);
    }
  }

  private static void checkParameters(Executable called) {
    check(called.getParameterCount() <= MOST_PARAMETERS, 11, called + " takes too many");
    check(!called.isSynthetic(), 2, called + " comes of a lambda or an inner class");
  }

  private static void checkNames() {
    Set<String> open = new TreeSet<>();
    for (Method method : ScopeKeeper.class.getMethods()) {
      open.add(method.getName());
    }
    for (Class<?> type : allClasses()) {
      for (Method method : type.getDeclaredMethods()) {
        check(Modifier.isPublic(method.getModifiers()) || !open.contains(method.getName()), 1,
            method + " bears the name of a public one");
      }
    }
  }

  private static void checkWords(String code) {
    List<String> words = List.of(withoutTexts(code).split("\\W+"));
    for (Map.Entry<Integer, List<String>> refused : WORDS_REFUSED.entrySet()) {
      for (String word : refused.getValue()) {
        check(!words.contains(word), refused.getKey(), "the word " + word);
      }
    }
    check(!code.contains("->") && !code.contains("::"), 2, "a lambda or a method reference");
    check(!code.contains("static {"), 5, "a static initialiser");
    Matcher imports = Pattern.compile("(?m)^import (.*);").matcher(code);
    while (imports.find()) {
      check(imports.group(1).equals("java.util.NoSuchElementException"), 4, imports.group());
    }
  }

  private static void checkThrows(String code) {
    Matcher all = Pattern.compile("\\bthrow\\b[^;]*;").matcher(code);
    Pattern plain = Pattern.compile("throw new (\\w+)\\((\"[^\"]*\")?\\);");
    while (all.find()) {
      Matcher parts = plain.matcher(all.group());
      check(parts.matches() && THROWN.contains(parts.group(1)), 6, all.group());
    }
  }

  /** Methods begin with a "{" at the end of a line that stands two or four deep. */
  private static void checkBodies(String code) {
    String joined = code.replaceAll("\n +throws ", " throws ");
    Matcher starts = Pattern.compile("(?m)^(  |    )\\S.*\\{$").matcher(joined);
    while (starts.find()) {
      String first = starts.group();
      if (!first.contains(" class ")) {
        int end = joined.indexOf("\n" + starts.group(1) + "}", starts.end());
        String body = joined.substring(starts.end(), end);
        check(body.split("\n").length <= MOST_LINES, 11, "a long method: " + first.trim());
        boolean makes = first.matches(" +(public |private )?[A-Z]\\w*\\(.*");
        check(!makes || !body.contains("throw "), 6, "a constructor throws: " + first.trim());
      }
    }
  }

  private static String withoutRemarks(String text) {
    return text.replaceAll("(?s)/\\*.*?\\*/", "").replaceAll("//.*", "");
  }

  private static String withoutTexts(String code) {
    return code.replaceAll("\"[^\"\n]*\"", "\"\"");
  }

  private static void check(boolean holds, int rule, String fault) {
    if (!holds) {
      wrong++;
      System.out.println("rule " + rule + ": " + fault);
    }
  }
}
