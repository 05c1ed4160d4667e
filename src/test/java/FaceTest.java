import java.io.IOException;
import java.lang.reflect.Constructor;
import java.lang.reflect.Field;
import java.lang.reflect.Method;
import java.lang.reflect.Modifier;
import java.nio.file.Files;
import java.nio.file.Path;
import java.util.Arrays;
import java.util.Set;
import java.util.TreeSet;
import java.util.regex.Matcher;
import java.util.regex.Pattern;

/** The document's face, and those rules of LANGUAGE.md that can be seen from outside. */
public final class FaceTest {
  private static final String[] FACE = {
    "int feed(int, long)", "int line()", "int piece(int, int)", "int train(int, int)",
    "int set(int, int)", "int makeDouble(int, boolean)", "int order(int, int)",
    "int climbs(int)", "int takes(int)", "int base()", "int waited(int)", "int began(int)",
    "int allWaited()", "int downs()", "int best(int)", "int fewest(int)", "int which()",
    "int edge(int)", "int chance(int)", "int heaviest()", "int yard()", "int row(int)",
    "int judge(int)", "int image()", "int on()", "int count(int)"};

  public static void main(String[] args) throws IOException {
    face();
    nestedClasses();
    source(Files.readString(Path.of(System.getProperty("pushedup.home"), "src/main/java/PushedUp.java")));
    Check.end("FaceTest");
  }

  private static void face() {
    Class<?> c = PushedUp.class;
    Check.holds("public and final", Modifier.isPublic(c.getModifiers()) && Modifier.isFinal(c.getModifiers()));
    Constructor<?>[] made = c.getDeclaredConstructors();
    Check.holds("one public constructor",
        made.length == 1 && Modifier.isPublic(made[0].getModifiers()) && made[0].getParameterCount() == 0);
    Set<String> found = new TreeSet<>();
    Set<String> names = new TreeSet<>();
    for (Method m : c.getDeclaredMethods()) {
      if (!Modifier.isPrivate(m.getModifiers())) {
        Check.holds("public: " + m, Modifier.isPublic(m.getModifiers()) && !Modifier.isStatic(m.getModifiers()));
        String kinds = Arrays.toString(m.getParameterTypes());
        found.add(m.getReturnType() + " " + m.getName() + "(" + kinds.substring(1, kinds.length() - 1) + ")");
        names.add(m.getName());
      }
    }
    Check.holds("the methods of the face: " + found, found.equals(new TreeSet<>(Arrays.asList(FACE))));
    for (Method m : c.getDeclaredMethods()) {
      Check.holds("no private name of the face: " + m,
          !Modifier.isPrivate(m.getModifiers()) || !names.contains(m.getName()));
    }
    for (Field f : c.getDeclaredFields()) {
      Check.holds("private: " + f, Modifier.isPrivate(f.getModifiers()));
    }
  }

  private static void nestedClasses() {
    Class<?>[] nested = PushedUp.class.getDeclaredClasses();
    Check.holds("at most twelve classes", nested.length < 12);
    for (Class<?> c : nested) {
      Check.holds("static: " + c, Modifier.isStatic(c.getModifiers()) && !Modifier.isPublic(c.getModifiers()));
      int fields = 0;
      for (Field f : c.getDeclaredFields()) {
        fields += Modifier.isStatic(f.getModifiers()) ? 0 : 1;
      }
      Check.holds("at most twenty fields: " + c, fields <= 20);
      for (Method m : c.getDeclaredMethods()) {
        Check.holds("at most seven parameters: " + m, m.getParameterCount() <= 7);
      }
    }
  }

  private static void source(String text) {
    String code = text.replaceAll("(?s)/\\*.*?\\*/", " ").replaceAll("//[^\n]*", " ").replaceAll("'.'", "0");
    String[] barred = {"throw", "throws", "try", "catch", "synchronized", "assert", "import", "package",
        "protected", "var", "instanceof", "float", "double", "Object", "System.out", "Exact"};
    for (String word : barred) {
      Check.holds("not in the program: " + word,
          !Pattern.compile("\\b" + Pattern.quote(word) + "\\b").matcher(code).find());
    }
    Check.holds("no lambda, no method reference", !code.contains("->") && !code.contains("::"));
    for (char sign : text.toCharArray()) {
      if (sign > 126) {
        Check.holds("a sign above 126: " + (int) sign, false);
      }
    }
    Matcher library = Pattern.compile("\\b(Math|System|Integer|Long|Arrays|String)\\.(\\w+)").matcher(code);
    while (library.find()) {
      String used = library.group();
      Check.holds("of the library: " + used,
          used.equals("Math.max") || used.equals("Math.min") || used.equals("System.arraycopy"));
    }
  }
}
