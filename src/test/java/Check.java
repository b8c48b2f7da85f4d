import java.util.ArrayList;
import java.util.List;
import java.util.function.LongSupplier;

/** What the tests share: answers that are due, refusals, STATEs told in letters. */
final class Check {
  static final int NONE = -9;
  private static final long REFUSED_LONG = 4000000000000000000L;

  private final String test;
  private int calls = 0;
  private int wrong = 0;

  Check(String test) {
    this.test = test;
  }

  void due(String call, long got, long want) {
    calls++;
    if (got != want) {
      wrong++;
      System.out.println(test + ": " + call + " answered " + got + ", due is " + want);
    }
  }

  void holds(String what, boolean isSo) {
    due(what, isSo ? 1 : 0, 1);
  }

  /** The call is refused with the code, it is counted once, and nothing else changes. */
  void refused(NailsWantTheKingdom x, String call, LongSupplier made, int code) {
    refusedWith(x, call, made, code, code);
  }

  /** The same of a call that answers a long. */
  void refusedLong(NailsWantTheKingdom x, String call, LongSupplier made, int code) {
    refusedWith(x, call, made, code, REFUSED_LONG - code);
  }

  private void refusedWith(NailsWantTheKingdom x, String call, LongSupplier made, int code, long answer) {
    List<Integer> counted = refusals(x);
    List<Integer> seen = all(x);
    due(call, made.getAsLong(), answer);
    counted.set(-code - 1, counted.get(-code - 1) + 1);
    holds(call + " counts once, as " + code, refusals(x).equals(counted));
    holds(call + " leaves all as it was", all(x).equals(seen));
  }

  static List<Integer> refusals(NailsWantTheKingdom x) {
    List<Integer> counts = new ArrayList<>();
    for (int what = 11; what <= 16; what++) counts.add(x.count(what));
    return counts;
  }

  /** All that can be seen without a change. */
  static List<Integer> all(NailsWantTheKingdom x) {
    List<Integer> seen = new ArrayList<>();
    for (int what = 0; what <= 7; what++) seen.add(x.count(what));
    for (int thing = 0; thing < x.count(0); thing++) {
      for (int what = 0; what <= 5; what++) seen.add(x.thing(thing, what));
    }
    return seen;
  }

  static void letters(NailsWantTheKingdom x, String text) {
    for (int i = 0; i < text.length(); i++) x.letter(text.charAt(i));
  }

  static int tell(NailsWantTheKingdom x, String text) {
    letters(x, text);
    return x.state();
  }

  static NailsWantTheKingdom told(String... texts) {
    NailsWantTheKingdom x = new NailsWantTheKingdom();
    for (String text : texts) {
      if (tell(x, text) < 1) throw new IllegalStateException("the test tells no STATE: " + text);
    }
    return x;
  }

  /** DAYS go by until DAY is that. */
  static NailsWantTheKingdom onDay(NailsWantTheKingdom x, int day) {
    for (int left = day - x.count(1); left > 0; left -= 60) x.days(Math.min(60, left));
    return x;
  }

  static void numbers(NailsWantTheKingdom x, int... values) {
    for (int v : values) x.row(v);
  }

  void end() {
    System.out.println(test + ": " + calls + " looked at, " + wrong + " wrong");
    if (wrong != 0) System.exit(1);
  }
}
