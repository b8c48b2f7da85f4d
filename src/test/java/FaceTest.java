import java.io.IOException;
import java.lang.reflect.Constructor;
import java.lang.reflect.Field;
import java.lang.reflect.Method;
import java.lang.reflect.Modifier;
import java.nio.file.Files;
import java.nio.file.Path;
import java.util.Arrays;
import java.util.List;
import java.util.Set;
import java.util.TreeSet;
import java.util.regex.Matcher;
import java.util.regex.Pattern;

/** The document's face, and what of LANGUAGE.md can be seen from outside or in the text of the file. */
public final class FaceTest {
  private static final Check check = new Check("FaceTest");
  private static final Path SOURCE = Path.of("src/main/java/NailsWantTheKingdom.java");
  private static final List<String> FACE = List.of(
      "int letter(int)", "int state()", "int thing(int,int)", "int causes(int,int)", "int loses(int)",
      "int mends(int)", "int guards(int)", "int turn(int,int,int)", "int days(int)", "int lostThen(int)",
      "int when(int)", "int next(int)", "int roots(int,int)", "int nails()", "int guard(int,int)", "int weak(int)",
      "int tack(int)", "int worst(int)", "int fewest(int)", "long blame(int,int,int)", "int saved(int,int)",
      "int hooks(int)", "int key()", "int twins(int)", "int two(int,int,int)", "long boys(int,int,int,int,int)",
      "long mean(int)", "int whatWas(int,int)", "int row(int)", "int judge()", "int clear()",
      "int lots(int,int,int)", "int image()", "int on()", "int count(int)");

  public static void main(String[] args) throws IOException {
    face();
    nothingElseIsSeen();
    classesInside();
    words();
    check.end();
  }

  private static String told(Method m) {
    StringBuilder s = new StringBuilder(m.getReturnType().getName()).append(' ').append(m.getName()).append('(');
    for (Class<?> type : m.getParameterTypes()) s.append(s.charAt(s.length() - 1) == '(' ? "" : ",").append(type.getName());
    return s.append(')').toString();
  }

  private static void face() {
    Set<String> seen = new TreeSet<>();
    for (Method m : NailsWantTheKingdom.class.getDeclaredMethods()) {
      if (!Modifier.isPrivate(m.getModifiers())) seen.add(told(m));
    }
    check.holds("the methods are the document's: " + seen, seen.equals(new TreeSet<>(FACE)));
    Constructor<?>[] made = NailsWantTheKingdom.class.getDeclaredConstructors();
    check.holds("one public constructor", made.length == 1 && Modifier.isPublic(made[0].getModifiers()) && made[0].getParameterCount() == 0);
    int modifiers = NailsWantTheKingdom.class.getModifiers();
    check.holds("public and final", Modifier.isPublic(modifiers) && Modifier.isFinal(modifiers));
  }

  private static void nothingElseIsSeen() {
    for (Field f : NailsWantTheKingdom.class.getDeclaredFields()) {
      check.holds(f.getName() + " is private", Modifier.isPrivate(f.getModifiers()));
    }
    Set<String> faceNames = new TreeSet<>();
    for (String one : FACE) faceNames.add(one.substring(one.indexOf(' ') + 1, one.indexOf('(')));
    for (Method m : NailsWantTheKingdom.class.getDeclaredMethods()) {
      if (Modifier.isPrivate(m.getModifiers())) {
        check.holds(m.getName() + " is no public one's name", !faceNames.contains(m.getName()));
      }
    }
    for (Class<?> inside : NailsWantTheKingdom.class.getDeclaredClasses()) {
      for (Method m : inside.getDeclaredMethods()) {
        check.holds(m.getName() + " is no public one's name", !faceNames.contains(m.getName()));
        check.holds(m.getName() + " takes at most seven", m.getParameterCount() <= 7);
      }
    }
  }

  private static void classesInside() {
    Class<?>[] inside = NailsWantTheKingdom.class.getDeclaredClasses();
    check.holds("at most twelve classes", inside.length + 1 <= 12);
    for (Class<?> one : inside) {
      check.holds(one.getName() + " is static", Modifier.isStatic(one.getModifiers()));
      for (Field f : one.getDeclaredFields()) {
        boolean isFree = Modifier.isStatic(f.getModifiers()) && !Modifier.isFinal(f.getModifiers());
        check.holds(one.getName() + "." + f.getName() + " is no free static", !isFree);
      }
    }
  }

  private static void words() throws IOException {
    String source = Files.readString(SOURCE);
    check.holds("signs 1 to 127", source.chars().allMatch(c -> c > 0 && c < 128));
    String code = source.replaceAll("(?s)/\\*.*?\\*/", " ").replaceAll("//[^\n]*", " ").replaceAll("\"[^\"\n]*\"", "\"\"");
    List<String> banned = Arrays.asList(
        "throw", "throws", "try", "catch", "finally", "synchronized", "assert", "import", "package", "protected",
        "System", "Random", "Thread", "volatile", "native", "transient");
    Matcher words = Pattern.compile("[A-Za-z_]+").matcher(code);
    while (words.find()) check.holds("no word '" + words.group() + "'", !banned.contains(words.group()));
    check.holds("no lambda", !code.contains("->"));
    check.holds("no method reference", !code.contains("::"));
    check.holds("no Exact", !code.contains("Exact("));
  }
}
