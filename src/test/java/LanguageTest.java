import java.io.IOException;
import java.lang.reflect.Field;
import java.lang.reflect.Method;
import java.lang.reflect.Modifier;
import java.nio.charset.StandardCharsets;
import java.nio.file.Files;
import java.nio.file.Path;
import java.util.Arrays;
import java.util.HashSet;
import java.util.Set;
import java.util.TreeSet;
import java.util.regex.Matcher;
import java.util.regex.Pattern;

/** What of ../shared/LANGUAGE.md, and of the document's face, can be seen from the file and the compiled class. */
public final class LanguageTest {
  private static final Path PROGRAM = Path.of("src/main/java/FountainGivesChange.java");
  private static final Path DOCUMENT = Path.of("../shared/DOC.md");
  private static final String[] NO_WORDS = {
    "throw", "throws", "try", "catch", "finally", "synchronized", "assert", "package", "native", "volatile",
    "hashCode", "toString", "protected", "Random", "Thread", "nanoTime", "currentTimeMillis",
  };
  private static final String[] NO_SIGNS = {"->", "::", "Exact(", "System.out", "import static"};
  private static final Checks c = new Checks();

  public static void main(String[] args) throws IOException {
    String text = Files.readString(PROGRAM, StandardCharsets.UTF_8);
    String code = text.replaceAll("(?s)/\\*.*?\\*/", "").replaceAll("//[^\n]*", "");
    words(text, code);
    lengths(code);
    face();
    nested(FountainGivesChange.class.getDeclaredClasses());
    constructorMakesLittle();
    c.end();
  }

  private static void words(String text, String code) {
    c.about("words");
    for (String word : NO_WORDS) {
      c.holds("no " + word, !Pattern.compile("\\b" + word + "\\b").matcher(code).find());
    }
    for (String sign : NO_SIGNS) {
      c.holds("no " + sign, !code.contains(sign));
    }
    for (int i = 0; i < text.length(); i++) {
      c.holds("ASCII at " + i, text.charAt(i) < 128);
    }
    Matcher m = Pattern.compile("^import (.*);", Pattern.MULTILINE).matcher(code);
    while (m.find()) {
      c.holds("import " + m.group(1), Set.of("java.util.Arrays", "java.util.ArrayList", "java.util.List").contains(m.group(1)));
    }
    Matcher s = Pattern.compile("\\bstatic (?!final)[^({;=]*[;=]").matcher(code);
    c.holds("static fields are final", !s.find());
    c.holds("no constructor hands anything out", !Pattern.compile("\\bnew [A-Z]\\w*\\([^)]").matcher(code).find());
  }

  /** A method's lines, by its braces at the two depths that methods have here. */
  private static void lengths(String code) {
    c.about("lengths");
    String[] lines = code.split("\n");
    for (int i = 0; i < lines.length; i++) {
      Matcher m = Pattern.compile("^( {4}| {8})[A-Za-z][^=;]*\\(([^)]*)\\) \\{$").matcher(lines[i]);
      if (!m.find()) {
        continue;
      }
      int end = i;
      while (!lines[end].equals(m.group(1) + "}")) {
        end++;
      }
      c.holds("lines of " + lines[i].trim(), end - i < 60);
      c.holds("parameters of " + lines[i].trim(), m.group(2).split(",").length <= 7);
    }
  }

  private static void face() throws IOException {
    c.about("face");
    Set<String> due = new TreeSet<>();
    Matcher m = Pattern.compile("^    public (?:int|long) ([a-zA-Z]+)\\(([^)]*)\\);", Pattern.MULTILINE)
        .matcher(Files.readString(DOCUMENT, StandardCharsets.UTF_8));
    while (m.find()) {
      due.add(m.group(1) + "(" + m.group(2).replaceAll("(int|long) [a-zA-Z]+", "$1").replace(" ", "") + ")");
    }
    c.due("methods of the document", due.size(), 39);
    Set<String> got = new TreeSet<>();
    Set<String> names = new HashSet<>();
    for (Method method : FountainGivesChange.class.getDeclaredMethods()) {
      if (Modifier.isPublic(method.getModifiers())) {
        String types = Arrays.toString(method.getParameterTypes()).replaceAll("[\\[\\] ]", "");
        got.add(method.getName() + "(" + types + ")");
        names.add(method.getName());
      }
    }
    c.holds("the face is the document's: " + got, got.equals(due));
    for (Method method : FountainGivesChange.class.getDeclaredMethods()) {
      boolean isPublic = Modifier.isPublic(method.getModifiers());
      c.holds(method.getName() + " is public or private", isPublic || Modifier.isPrivate(method.getModifiers()));
      c.holds(method.getName() + " isn't a public one's name", isPublic || !names.contains(method.getName()));
    }
    for (Field field : FountainGivesChange.class.getDeclaredFields()) {
      c.holds(field.getName() + " is private or NONE",
          Modifier.isPrivate(field.getModifiers()) || field.getName().equals("NONE"));
    }
    c.due("constructors", FountainGivesChange.class.getDeclaredConstructors().length, 1);
    c.holds("final", Modifier.isFinal(FountainGivesChange.class.getModifiers()));
  }

  private static void nested(Class<?>[] classes) {
    c.about("classes inside");
    c.holds("some twelve classes", classes.length < 12);
    for (Class<?> inside : classes) {
      c.holds(inside.getName() + " is static", Modifier.isStatic(inside.getModifiers()));
      c.holds(inside.getName() + " isn't public", !Modifier.isPublic(inside.getModifiers()));
      int fields = 0;
      for (Field field : inside.getDeclaredFields()) {
        fields += Modifier.isStatic(field.getModifiers()) ? 0 : 1;
      }
      c.holds(inside.getName() + " has some twenty fields", fields <= 20);
    }
  }

  /** What is made is made in the constructor: the rest of the file has no 'new' behind a field's own. */
  private static void constructorMakesLittle() throws IOException {
    c.about("room");
    String text = Files.readString(PROGRAM, StandardCharsets.UTF_8);
    for (String line : text.split("\n")) {
      boolean makes = line.contains(" new ") && !line.trim().startsWith("//");
      boolean field = line.contains("final ") || line.contains("shelves[s] = new Shelf()");
      c.holds("nothing is made by a call: " + line.trim(), !makes || field);
    }
  }
}
