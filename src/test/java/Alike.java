import java.util.ArrayList;
import java.util.List;
import java.util.function.Supplier;
import java.util.function.ToLongFunction;

/**
 * Two objects made alike, of which one is asked for what is refused: it answers the number, count 11 to 16 tells
 * it once, and behind it all that there is (the ROW, letters and THE IMAGE, too) is as in the other.
 */
final class Alike {
  private static final long REFUSED_LONG = 4000000000000000000L;

  private final Check check;
  private final String name;
  private final Supplier<NailsWantTheKingdom> made;

  Alike(Check check, String name, Supplier<NailsWantTheKingdom> made) {
    this.check = check;
    this.name = name;
    this.made = made;
  }

  void refuses(int code, String call, ToLongFunction<NailsWantTheKingdom> asked) {
    refusesWith(code, code, call, asked);
  }

  /** The same of a call that answers a long. */
  void refusesLong(int code, String call, ToLongFunction<NailsWantTheKingdom> asked) {
    refusesWith(code, REFUSED_LONG - code, call, asked);
  }

  /** The call is not refused; what it does else is not looked at. */
  void takes(String call, ToLongFunction<NailsWantTheKingdom> asked) {
    NailsWantTheKingdom x = made.get();
    List<Integer> counted = Check.refusals(x);
    asked.applyAsLong(x);
    check.holds(name + ": " + call + " is not refused", Check.refusals(x).equals(counted));
  }

  private void refusesWith(int code, long answer, String call, ToLongFunction<NailsWantTheKingdom> asked) {
    String told = name + ": " + call;
    NailsWantTheKingdom x = made.get();
    NailsWantTheKingdom other = made.get();
    check.due(told, asked.applyAsLong(x), answer);
    List<Integer> counted = Check.refusals(other);
    counted.set(-code - 1, counted.get(-code - 1) + 1);
    check.holds(told + " is counted once, as " + code, Check.refusals(x).equals(counted));
    check.holds(told + " leaves all else as it was", everything(x).equals(everything(other)));
  }

  /** All that can be seen; what is looked at uses up the ROW and the letters. */
  private static List<Integer> everything(NailsWantTheKingdom x) {
    List<Integer> seen = new ArrayList<>(Check.all(x));
    seen.add(x.whatWas(0, 0));
    seen.add(x.whatWas(0, 1));
    seen.add(x.judge());
    x.letter(';');
    seen.add(x.state());
    seen.addAll(Check.all(x));
    seen.add(x.on());
    seen.addAll(Check.all(x));
    return seen;
  }
}
