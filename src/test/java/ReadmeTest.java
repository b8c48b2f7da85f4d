import java.io.IOException;
import java.lang.reflect.Method;
import java.nio.file.Files;
import java.nio.file.Path;
import java.util.regex.Matcher;
import java.util.regex.Pattern;

/** README.md's examples, line by line: each call answers what its comment begins with. */
public final class ReadmeTest {
  private static final Check check = new Check("ReadmeTest");
  private static final Pattern EXAMPLE = Pattern.compile("(?s)```java\n(.*?)```");
  private static final Pattern NEW = Pattern.compile("NailsWantTheKingdom x = new NailsWantTheKingdom\\(\\);");
  private static final Pattern LETTERS = Pattern.compile("for \\(char c : \"(.*)\"\\.toCharArray\\(\\)\\) x\\.letter\\(c\\);");
  private static final Pattern CALL = Pattern.compile("x\\.(\\w+)\\(([-0-9, ]*)\\);\\s+// (-?\\d+): .*");
  private static final Pattern WORDS = Pattern.compile("// .*|");

  private NailsWantTheKingdom x = null;
  private int calls = 0;

  public static void main(String[] args) throws IOException {
    Matcher examples = EXAMPLE.matcher(Files.readString(Path.of("README.md")));
    int found = 0;
    while (examples.find()) {
      found++;
      new ReadmeTest().go(examples.group(1));
    }
    check.holds("README.md has examples", found > 0);
    check.end();
  }

  private void go(String example) {
    for (String line : example.split("\n")) {
      if (!isDone(line)) check.holds("a line that is understood: " + line, false);
    }
    check.holds("the example calls the class", calls > 0);
  }

  private boolean isDone(String line) {
    if (WORDS.matcher(line).matches()) return true;
    if (NEW.matcher(line).matches()) {
      x = new NailsWantTheKingdom();
      return true;
    }
    if (x == null) return false;
    Matcher letters = LETTERS.matcher(line);
    if (letters.matches()) {
      Check.letters(x, letters.group(1));
      return true;
    }
    Matcher call = CALL.matcher(line);
    return call.matches() && isCalled(line, call.group(1), call.group(2), Long.parseLong(call.group(3)));
  }

  private boolean isCalled(String line, String name, String told, long want) {
    Object[] numbers = Pattern.compile("-?\\d+").matcher(told).results().map(m -> Integer.parseInt(m.group())).toArray();
    for (Method m : NailsWantTheKingdom.class.getMethods()) {
      if (m.getName().equals(name) && m.getParameterCount() == numbers.length) {
        check.due(line, answer(m, numbers), want);
        calls++;
        return true;
      }
    }
    return false;
  }

  private long answer(Method m, Object[] numbers) {
    try {
      return ((Number) m.invoke(x, numbers)).longValue();
    } catch (ReflectiveOperationException e) {
      throw new IllegalStateException(e);
    }
  }
}
