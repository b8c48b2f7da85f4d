import java.math.BigInteger;
import java.util.ArrayList;
import java.util.List;
import java.util.TreeSet;
import java.util.regex.Pattern;

/**
 * The document once more, as slowly and as literally as it can be said: sets, all subsets, all orders,
 * every DAY by itself. AgainstPlainKingdomTest compares the class with it.
 */
final class PlainKingdom {
  private static final int NONE = -9;
  private static final String STATEMENT = "(t[nshbkw][0-9];|c[0-9][0-9];|[lmg][0-9];|d[0-9][0-9];)";
  private static final String BEGUN = "(|t|t[nshbkw]|t[nshbkw][0-9]|c|c[0-9]|c[0-9][0-9]|[lmg]|[lmg][0-9]|d|d[0-9]|d[0-9][0-9])";
  private static final Pattern CAN_GO_ON = Pattern.compile(STATEMENT + "*" + BEGUN);
  private static final Pattern WHOLE_TEXT = Pattern.compile(STATEMENT + "+");

  /** One world: what THE IMAGE has. */
  private static final class World {
    List<Character> kinds = new ArrayList<>();
    List<Integer> figures = new ArrayList<>();
    List<TreeSet<Integer>> causes = new ArrayList<>();
    TreeSet<Integer> lost = new TreeSet<>();
    TreeSet<Integer> guarded = new TreeSet<>();
    int day = 0;

    World copy() {
      World w = new World();
      w.kinds = new ArrayList<>(kinds);
      w.figures = new ArrayList<>(figures);
      for (TreeSet<Integer> c : causes) w.causes.add(new TreeSet<>(c));
      w.lost = new TreeSet<>(lost);
      w.guarded = new TreeSet<>(guarded);
      w.day = day;
      return w;
    }

    int size() {
      return kinds.size();
    }

    /** What no DAY changes is not made anew. */
    World aDay() {
      World w = new World();
      w.kinds = kinds;
      w.figures = figures;
      w.causes = causes;
      w.lost = new TreeSet<>(lost);
      w.guarded = guarded;
      w.day = day + 1;
      for (int i = 0; i < size(); i++) {
        if (lost.contains(i) || guarded.contains(i) || causes.get(i).isEmpty()) continue;
        int c = causes.get(i).size();
        TreeSet<Integer> gone = new TreeSet<>(causes.get(i));
        gone.retainAll(lost);
        int g = gone.size();
        boolean falls = switch (kinds.get(i)) {
          case 's' -> g >= 1;
          case 'h' -> c > 1 ? g >= 2 : g >= 1;
          case 'b' -> g == c;
          case 'k' -> w.day % (figures.get(i) + 1) == 0 && g >= 1;
          case 'w' -> 2 * g > c;
          default -> false;
        };
        if (falls) w.lost.add(i);
      }
      return w;
    }

    World on(int n) {
      World w = this;
      for (int i = 0; i < n; i++) w = w.aDay();
      return w;
    }

    World with(int lostNow) {
      World w = copy();
      w.lost.addAll(set(lostNow));
      return w;
    }

    World guarding(int guardedNow) {
      World w = copy();
      w.guarded.addAll(set(guardedNow));
      return w;
    }

    TreeSet<Integer> nails() {
      TreeSet<Integer> nails = new TreeSet<>();
      for (int i = 0; i < size(); i++) if (causes.get(i).isEmpty()) nails.add(i);
      return nails;
    }

    TreeSet<Integer> open(TreeSet<Integer> of) {
      TreeSet<Integer> open = new TreeSet<>(of);
      open.removeAll(lost);
      open.removeAll(guarded);
      return open;
    }

    TreeSet<Integer> all() {
      return set((1 << size()) - 1);
    }

    int when(int thing) {
      World v = this;
      for (int n = 0; n <= 60; n++) {
        if (v.lost.contains(thing)) return n;
        v = v.aDay();
      }
      return NONE;
    }
  }

  static TreeSet<Integer> set(int bits) {
    TreeSet<Integer> s = new TreeSet<>();
    for (int i = 0; i < 31; i++) if ((bits >> i & 1) == 1) s.add(i);
    return s;
  }

  static int bits(TreeSet<Integer> s) {
    int bits = 0;
    for (int i : s) bits |= 1 << i;
    return bits;
  }

  private World w = new World();
  private World image = null;
  private final List<Integer> row = new ArrayList<>();
  private StringBuilder text = new StringBuilder();
  private final int[] refusals = new int[7];

  private int no(int code) {
    refusals[-code]++;
    return code;
  }

  private long noLong(int code) {
    return 4000000000000000000L - no(code);
  }

  private boolean lacks(int thing) {
    return thing < 0 || thing >= w.size();
  }

  int letter(int c) {
    if (c < 0) return no(-4);
    if (c > 255 || text.length() == 96) return no(-6);
    text.append((char) c);
    return text.length();
  }

  int state() {
    String s = text.toString();
    text = new StringBuilder();
    for (int i = 0; i < s.length(); i++) {
      if (!CAN_GO_ON.matcher(s.substring(0, i + 1)).matches()) return -1000 - i;
    }
    if (!WHOLE_TEXT.matcher(s).matches()) return -1000 - s.length();
    World then = w.copy();
    int place = 0;
    int statements = 0;
    for (String one : s.split(";")) {
      then = come(then, one);
      if (then == null) return -2000 - place;
      place += one.length() + 1;
      statements++;
    }
    w = then;
    return statements;
  }

  private static World come(World v, String s) {
    if (s.charAt(0) == 't') {
      if (v.size() == 9) return null;
      v.kinds.add(s.charAt(1));
      v.figures.add(s.charAt(2) - '0');
      v.causes.add(new TreeSet<>());
      return v;
    }
    int number = Integer.parseInt(s.substring(1));
    if (s.charAt(0) == 'd') return number < 1 || number > 60 || v.day + number > 999 ? null : v.on(number);
    if (s.charAt(0) == 'c') {
      int a = number / 10;
      int b = number % 10;
      if (a >= v.size() || b >= v.size() || b >= a) return null;
      if (!v.causes.get(a).remove(b)) v.causes.get(a).add(b);
      return v;
    }
    if (number >= v.size()) return null;
    if (s.charAt(0) == 'l') {
      if (v.guarded.contains(number)) return null;
      v.lost.add(number);
    } else if (s.charAt(0) == 'm') {
      v.lost.remove(number);
    } else if (!v.guarded.remove(number)) {
      v.guarded.add(number);
    }
    return v;
  }

  private int depth(int thing) {
    int most = 0;
    for (int c : w.causes.get(thing)) most = Math.max(most, 1 + depth(c));
    return most;
  }

  int thing(int thing, int what) {
    if (lacks(thing)) return no(-1);
    if (what < 0 || what > 5) return no(-2);
    int[] answers = {
      "nshbkw".indexOf(w.kinds.get(thing)), w.figures.get(thing), bits(w.causes.get(thing)),
      w.lost.contains(thing) ? 1 : 0, w.guarded.contains(thing) ? 1 : 0, depth(thing)};
    return answers[what];
  }

  int causes(int thing, int cause) {
    if (lacks(thing) || lacks(cause)) return no(-1);
    if (cause >= thing) return no(-3);
    TreeSet<Integer> c = w.causes.get(thing);
    if (!c.remove(cause)) c.add(cause);
    return bits(c);
  }

  int loses(int thing) {
    if (lacks(thing)) return no(-1);
    if (w.lost.contains(thing) || w.guarded.contains(thing)) return no(-3);
    w.lost.add(thing);
    return w.lost.size();
  }

  int mends(int thing) {
    if (lacks(thing)) return no(-1);
    if (!w.lost.remove(thing)) return no(-3);
    return w.lost.size();
  }

  int guards(int thing) {
    if (lacks(thing)) return no(-1);
    if (w.guarded.remove(thing)) return 0;
    w.guarded.add(thing);
    return 1;
  }

  int turn(int thing, int kind, int figure) {
    if (lacks(thing)) return no(-1);
    if (kind < 0 || kind > 5) return no(-2);
    if (figure < 0) return no(-4);
    if (figure > 9) return no(-6);
    int had = "nshbkw".indexOf(w.kinds.get(thing)) * 10 + w.figures.get(thing);
    w.kinds.set(thing, "nshbkw".charAt(kind));
    w.figures.set(thing, figure);
    return had;
  }

  int days(int n) {
    if (n < 1) return no(-4);
    if (n > 60 || w.day + n > 999) return no(-6);
    w = w.on(n);
    return w.lost.size();
  }

  int lostThen(int n) {
    if (n < 0) return no(-4);
    if (n > 60) return no(-6);
    return bits(w.on(n).lost);
  }

  int when(int thing) {
    return lacks(thing) ? no(-1) : w.when(thing);
  }

  int next(int what) {
    if (what < 0 || what > 2) return no(-2);
    if (what == 2) {
      for (int n = 0; n <= 60; n++) if (w.on(n).lost.equals(w.on(n + 12).lost)) return n;
      return NONE;
    }
    int best = NONE;
    int soonest = 61;
    for (int i = 0; i < w.size(); i++) {
      int when = w.when(i);
      if (when > 0 && when < soonest) {
        soonest = when;
        best = i;
      }
    }
    return what == 0 || best == NONE ? best : soonest;
  }

  private TreeSet<Integer> rootsOf(int thing) {
    TreeSet<Integer> roots = new TreeSet<>(w.causes.get(thing));
    for (int c : w.causes.get(thing)) roots.addAll(rootsOf(c));
    return roots;
  }

  private TreeSet<Integer> fruitsOf(int thing) {
    TreeSet<Integer> fruits = new TreeSet<>();
    for (int i = 0; i < w.size(); i++) if (w.causes.get(i).contains(thing)) {
      fruits.add(i);
      fruits.addAll(fruitsOf(i));
    }
    return fruits;
  }

  int roots(int thing, int what) {
    if (lacks(thing)) return no(-1);
    if (what < 0 || what > 1) return no(-2);
    return bits(what == 0 ? rootsOf(thing) : fruitsOf(thing));
  }

  int nails() {
    return bits(w.nails());
  }

  /** All subsets, those of few THINGS first, of as many the least first. */
  private static List<Integer> subsets(TreeSet<Integer> of) {
    List<Integer> subsets = new ArrayList<>();
    for (int b = 0; b < 512; b++) if (of.containsAll(set(b))) subsets.add(b);
    subsets.sort((a, b) -> Integer.bitCount(a) != Integer.bitCount(b)
        ? Integer.bitCount(a) - Integer.bitCount(b) : a - b);
    return subsets;
  }

  int guard(int thing, int n) {
    if (lacks(thing)) return no(-1);
    if (n < 0) return no(-4);
    if (n > 30) return no(-6);
    for (int b : subsets(w.open(w.all()))) if (!w.guarding(b).on(n).lost.contains(thing)) return b;
    return NONE;
  }

  int weak(int n) {
    if (n < 0) return no(-4);
    if (n > 30) return no(-6);
    int best = NONE;
    int most = w.size() - w.on(n).lost.size();
    for (int i = 0; i < w.size(); i++) {
      int whole = w.size() - w.guarding(1 << i).on(n).lost.size();
      if (whole > most) {
        most = whole;
        best = i;
      }
    }
    return best;
  }

  int tack(int thing) {
    if (lacks(thing)) return no(-1);
    int best = NONE;
    int soonest = w.when(thing) == NONE ? 61 : w.when(thing);
    for (int nail : w.open(w.nails())) {
      int when = w.with(1 << nail).when(thing);
      if (when != NONE && when < soonest) {
        soonest = when;
        best = nail;
      }
    }
    return best;
  }

  int worst(int n) {
    if (n < 0) return no(-4);
    if (n > 30) return no(-6);
    int best = NONE;
    int most = w.on(n).lost.size();
    for (int nail : w.open(w.nails())) {
      int lost = w.with(1 << nail).on(n).lost.size();
      if (lost > most) {
        most = lost;
        best = nail;
      }
    }
    return best;
  }

  int fewest(int thing) {
    if (lacks(thing)) return no(-1);
    for (int b : subsets(w.open(w.nails()))) if (w.with(b).on(60).lost.contains(thing)) return b;
    return NONE;
  }

  private static void orders(List<Integer> begun, TreeSet<Integer> of, List<List<Integer>> orders) {
    if (begun.size() == of.size()) orders.add(new ArrayList<>(begun));
    for (int i : of) {
      if (begun.contains(i)) continue;
      begun.add(i);
      orders(begun, of, orders);
      begun.remove(begun.size() - 1);
    }
  }

  private static long part(BigInteger above, BigInteger below, int part) {
    BigInteger common = above.gcd(below);
    return (part == 0 ? above : below).divide(common).longValueExact();
  }

  long blame(int nail, int thing, int part) {
    if (lacks(nail) || lacks(thing)) return noLong(-1);
    TreeSet<Integer> first = w.nails();
    while (first.size() > 5) first.pollLast();
    if (!first.contains(nail)) return noLong(-3);
    if (part < 0 || part > 1) return noLong(-2);
    List<List<Integer>> orders = new ArrayList<>();
    orders(new ArrayList<>(), first, orders);
    int blamed = 0;
    for (List<Integer> order : orders) {
      World v = w.copy();
      v.lost.clear();
      v.guarded.clear();
      for (int one : order) {
        boolean was = v.lost.contains(thing);
        v = v.with(1 << one).on(10);
        if (!was && v.lost.contains(thing) && one == nail) blamed++;
      }
    }
    return part(BigInteger.valueOf(blamed), BigInteger.valueOf(orders.size()), part);
  }

  int saved(int thing, int n) {
    if (lacks(thing)) return no(-1);
    if (n < 0) return no(-4);
    if (n > 30) return no(-6);
    World v = w.copy();
    if (!v.lost.remove(thing)) return 0;
    return w.on(n).lost.size() - v.on(n).lost.size();
  }

  int hooks(int what) {
    if (what < 0 || what > 1) return no(-2);
    TreeSet<Integer> whole = w.all();
    whole.removeAll(w.lost);
    if (what == 0) whole.retainAll(w.on(1).lost);
    else whole.removeAll(w.on(60).lost);
    return bits(whole);
  }

  int key() {
    int best = NONE;
    for (int i = 0; i < w.size(); i++) if (best == NONE || fruitsOf(i).size() > fruitsOf(best).size()) best = i;
    return best;
  }

  int twins(int what) {
    if (what < 0 || what > 1) return no(-2);
    List<Integer> twos = new ArrayList<>();
    for (int i = 0; i < w.size(); i++) {
      for (int j = i + 1; j < w.size(); j++) {
        if (w.kinds.get(i).equals(w.kinds.get(j)) && w.causes.get(i).equals(w.causes.get(j))) twos.add(10 * i + j);
      }
    }
    return what == 0 ? twos.size() : twos.isEmpty() ? NONE : twos.get(0);
  }

  int two(int a, int b, int n) {
    if (lacks(a) || lacks(b) || a == b) return no(-1);
    if (n < 0) return no(-4);
    if (n > 30) return no(-6);
    TreeSet<Integer> open = w.open(w.nails());
    if (!open.contains(a) || !open.contains(b)) return no(-3);
    int[][] lost = new int[2][2];
    for (int x = 0; x < 2; x++) for (int y = 0; y < 2; y++) lost[x][y] = w.with(x << a | y << b).on(n).lost.size();
    for (int x = 0; x < 2; x++) {
      for (int y = 0; y < 2; y++) {
        boolean firstBetter = lost[1 - x][y] - 2 * (1 - x) > lost[x][y] - 2 * x;
        boolean secondBetter = lost[x][1 - y] + 2 * (1 - y) < lost[x][y] + 2 * y;
        if (!firstBetter && !secondBetter) return 10 * x + y;
      }
    }
    return NONE;
  }

  private static BigInteger ways(World v, int found, int thing, int n, int t) {
    if (n == 0) return v.lost.contains(thing) ? BigInteger.ONE : BigInteger.ZERO;
    World mended = v.copy();
    mended.lost.remove(found);
    return ways(mended.aDay(), found, thing, n - 1, t)
        .add(ways(v.aDay(), found, thing, n - 1, t).multiply(BigInteger.valueOf(t - 1)));
  }

  long boys(int found, int thing, int n, int t, int part) {
    if (lacks(found) || lacks(thing)) return noLong(-1);
    if (n < 0 || t < 2) return noLong(-4);
    if (n > 6 || t > 20) return noLong(-6);
    if (part < 0 || part > 1) return noLong(-2);
    return part(ways(w, found, thing, n, t), BigInteger.valueOf(t).pow(n), part);
  }

  private int allCauses() {
    int sum = 0;
    for (TreeSet<Integer> c : w.causes) sum += c.size();
    return sum;
  }

  long mean(int part) {
    if (part < 0 || part > 1) return noLong(-2);
    if (w.size() == 0) return part;
    return part(BigInteger.valueOf(allCauses()), BigInteger.valueOf(w.size()), part);
  }

  int whatWas(int thing, int what) {
    if (lacks(thing)) return no(-1);
    if (what < 0 || what > 1) return no(-2);
    int bits = 0;
    for (int choice = 0; choice < (what == 0 ? 6 : 10); choice++) {
      World v = w.copy();
      if (what == 0) v.kinds.set(thing, "nshbkw".charAt(choice));
      else v.figures.set(thing, choice);
      boolean isSo = true;
      for (int i = 0; i < row.size(); i++) isSo &= v.on(i).lost.size() == row.get(i);
      if (isSo) bits |= 1 << choice;
    }
    return bits;
  }

  int row(int v) {
    if (v < 0) return no(-4);
    if (v > 99 || row.size() == 16) return no(-6);
    row.add(v);
    return row.size();
  }

  int judge() {
    List<Integer> judged = new ArrayList<>(row);
    row.clear();
    for (int i = 0; i < judged.size(); i++) {
      if (i >= w.size()) return i;
      int when = w.when(i);
      if (judged.get(i) != (when == NONE ? 99 : when)) return i;
    }
    return NONE;
  }

  int clear() {
    int had = row.size();
    row.clear();
    return had;
  }

  int lots(int n, int z, int what) {
    if (n < 1) return no(-4);
    if (n > 20) return no(-6);
    if (what < 0 || what > 1) return no(-2);
    if (w.size() == 0) return no(-3);
    int sum = 0;
    int last = 0;
    for (int war = 0; war < n; war++) {
      World v = w.copy();
      for (int nail : w.nails()) {
        z = z * 1664525 + 1013904223;
        long without = z < 0 ? z + 2147483648L : z;
        if (without / 256 % 3 == 0) v.lost.add(nail);
        else v.lost.remove(nail);
      }
      v = v.on(15);
      sum += v.lost.size();
      if (v.lost.contains(w.size() - 1)) last++;
    }
    return what == 0 ? sum : last;
  }

  int image() {
    image = w.copy();
    return w.day;
  }

  int on() {
    if (image == null) return no(-3);
    w = image.copy();
    return w.day;
  }

  int count(int what) {
    if (what >= 11 && what <= 16) return refusals[what - 10];
    if (what < 0 || what > 7) return NONE;
    TreeSet<Integer> wholeNails = w.nails();
    wholeNails.removeAll(w.lost);
    int[] answers = {
      w.size(), w.day, bits(w.lost), bits(w.guarded), allCauses(), wholeNails.size(), row.size(), text.length()};
    return answers[what];
  }
}
