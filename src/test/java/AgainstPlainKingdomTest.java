import java.util.Random;

/** All promises: runs of calls by a fixed lot, answered by the class as by PlainKingdom. */
public final class AgainstPlainKingdomTest {
  private static final Check check = new Check("AgainstPlainKingdomTest");
  private static final int RUNS = 400;
  private static final int CALLS = 512;
  private static final int METHODS = 36;

  private final Random lot;
  private final NailsWantTheKingdom x = new NailsWantTheKingdom();
  private final PlainKingdom plain = new PlainKingdom();
  private int calls = 0;

  private AgainstPlainKingdomTest(long seed) {
    lot = new Random(seed);
  }

  public static void main(String[] args) {
    for (int run = 0; run < RUNS; run++) new AgainstPlainKingdomTest(run).go(run);
    check.end();
  }

  private void go(int run) {
    tell(begin());
    while (calls < CALLS) {
      int choice = lot.nextInt(METHODS);
      if (choice < 2 && run % 4 != 0) tell(text());
      else call(choice);
    }
  }

  private void same(String call, long got, long want) {
    calls++;
    check.due("call " + calls + ": " + call, got, want);
  }

  private void tell(String text) {
    for (int i = 0; i < text.length(); i++) {
      int c = text.charAt(i);
      same("letter(" + c + ")", x.letter(c), plain.letter(c));
    }
    same("state() of " + text, x.state(), plain.state());
  }

  private String begin() {
    StringBuilder s = new StringBuilder();
    int things = 1 + lot.nextInt(9);
    for (int i = 0; i < things; i++) s.append(newThing());
    for (int i = 1; i < things && s.length() < 92; i++) {
      if (lot.nextInt(5) > 0) s.append('c').append(i).append(lot.nextInt(i)).append(';');
    }
    return s.toString();
  }

  private String newThing() {
    return "t" + "nshbkw".charAt(lot.nextInt(6)) + lot.nextInt(10) + ";";
  }

  private String text() {
    StringBuilder s = new StringBuilder();
    int statements = lot.nextInt(6);
    for (int i = 0; i < statements; i++) s.append(statement());
    if (s.length() > 0 && lot.nextInt(6) == 0) s.setCharAt(lot.nextInt(s.length()), "tclmgd;0519n\u00ff".charAt(lot.nextInt(13)));
    if (s.length() > 0 && lot.nextInt(8) == 0) s.setLength(lot.nextInt(s.length()));
    return s.toString();
  }

  private String statement() {
    int size = Math.max(1, Math.min(9, x.count(0)));
    return switch (lot.nextInt(6)) {
      case 0 -> newThing();
      case 1 -> "c" + lot.nextInt(size) + lot.nextInt(size) + ";";
      case 2 -> "l" + lot.nextInt(size) + ";";
      case 3 -> "m" + lot.nextInt(size) + ";";
      case 4 -> "g" + lot.nextInt(size) + ";";
      default -> "d" + lot.nextInt(3) + lot.nextInt(10) + ";";
    };
  }

  private int thing() {
    if (lot.nextInt(25) == 0) return lot.nextInt(12) - 1;
    return lot.nextInt(Math.max(1, x.count(0)));
  }

  /** Mostly from the least to the greatest, at times just outside, seldom far. */
  private int number(int least, int greatest) {
    int way = lot.nextInt(60);
    if (way == 0) return lot.nextInt();
    if (way == 1) return least - 1;
    if (way == 2) return greatest + 1;
    if (way < 6) return least;
    if (way < 9) return greatest;
    return least + lot.nextInt(greatest - least + 1);
  }

  private void call(int choice) {
    int a = thing();
    int b = thing();
    int part = number(0, 1);
    int n30 = number(0, 30);
    switch (choice) {
      case 0 -> { int c = number(0, 255); same("letter(" + c + ")", x.letter(c), plain.letter(c)); }
      case 1 -> same("state()", x.state(), plain.state());
      case 2 -> { int q = number(0, 5); same("thing(" + a + ", " + q + ")", x.thing(a, q), plain.thing(a, q)); }
      case 3 -> same("causes(" + a + ", " + b + ")", x.causes(a, b), plain.causes(a, b));
      case 4 -> same("loses(" + a + ")", x.loses(a), plain.loses(a));
      case 5 -> same("mends(" + a + ")", x.mends(a), plain.mends(a));
      case 6 -> same("guards(" + a + ")", x.guards(a), plain.guards(a));
      case 7 -> {
        int kind = number(0, 5);
        int figure = number(0, 9);
        same("turn(" + a + ", " + kind + ", " + figure + ")", x.turn(a, kind, figure), plain.turn(a, kind, figure));
      }
      case 8 -> { int n = lot.nextInt(3) > 0 ? 1 + lot.nextInt(3) : number(1, 60); same("days(" + n + ")", x.days(n), plain.days(n)); }
      case 9 -> { int n = number(0, 60); same("lostThen(" + n + ")", x.lostThen(n), plain.lostThen(n)); }
      case 10 -> same("when(" + a + ")", x.when(a), plain.when(a));
      case 11 -> { int q = number(0, 2); same("next(" + q + ")", x.next(q), plain.next(q)); }
      case 12 -> same("roots(" + a + ", " + part + ")", x.roots(a, part), plain.roots(a, part));
      case 13 -> same("nails()", x.nails(), plain.nails());
      case 14 -> same("guard(" + a + ", " + n30 + ")", x.guard(a, n30), plain.guard(a, n30));
      case 15 -> same("weak(" + n30 + ")", x.weak(n30), plain.weak(n30));
      case 16 -> same("tack(" + a + ")", x.tack(a), plain.tack(a));
      case 17 -> same("worst(" + n30 + ")", x.worst(n30), plain.worst(n30));
      default -> callMore(choice, a, b, part, n30);
    }
  }

  private void callMore(int choice, int a, int b, int part, int n30) {
    switch (choice) {
      case 18 -> same("fewest(" + a + ")", x.fewest(a), plain.fewest(a));
      case 19 -> same("blame(" + a + ", " + b + ", " + part + ")", x.blame(a, b, part), plain.blame(a, b, part));
      case 20 -> same("saved(" + a + ", " + n30 + ")", x.saved(a, n30), plain.saved(a, n30));
      case 21 -> same("hooks(" + part + ")", x.hooks(part), plain.hooks(part));
      case 22 -> same("key()", x.key(), plain.key());
      case 23 -> same("twins(" + part + ")", x.twins(part), plain.twins(part));
      case 24 -> same("two(" + a + ", " + b + ", " + n30 + ")", x.two(a, b, n30), plain.two(a, b, n30));
      case 25 -> {
        int n = number(0, 6);
        int t = number(2, 20);
        same("boys(" + a + ", " + b + ", " + n + ", " + t + ", " + part + ")", x.boys(a, b, n, t, part), plain.boys(a, b, n, t, part));
      }
      case 26 -> same("mean(" + part + ")", x.mean(part), plain.mean(part));
      case 27 -> whatWas(a, part);
      case 28 -> { int v = number(0, 99); same("row(" + v + ")", x.row(v), plain.row(v)); }
      case 29 -> judge();
      case 30 -> same("clear()", x.clear(), plain.clear());
      case 31 -> {
        int n = number(1, 20);
        int z = lot.nextInt();
        same("lots(" + n + ", " + z + ", " + part + ")", x.lots(n, z, part), plain.lots(n, z, part));
      }
      case 32 -> { if (lot.nextInt(4) == 0) same("image()", x.image(), plain.image()); }
      case 33 -> { if (lot.nextInt(4) == 0) same("on()", x.on(), plain.on()); }
      default -> { int q = number(0, 17); same("count(" + q + ")", x.count(q), plain.count(q)); }
    }
  }

  /** A ROW that is so, or all but its last number is. */
  private void whatWas(int thing, int part) {
    if (lot.nextInt(3) > 0) {
      same("clear()", x.clear(), plain.clear());
      int numbers = 1 + lot.nextInt(12);
      for (int i = 0; i < numbers; i++) {
        int v = Integer.bitCount(plain.lostThen(i)) + (i == numbers - 1 && lot.nextInt(3) == 0 ? 1 : 0);
        same("row(" + v + ")", x.row(v), plain.row(v));
      }
    }
    same("whatWas(" + thing + ", " + part + ")", x.whatWas(thing, part), plain.whatWas(thing, part));
  }

  private void judge() {
    if (lot.nextInt(3) > 0) {
      same("clear()", x.clear(), plain.clear());
      int numbers = lot.nextInt(x.count(0) + 2);
      for (int i = 0; i < numbers; i++) {
        int when = i < x.count(0) ? x.when(i) : 99;
        int v = lot.nextInt(12) == 0 ? lot.nextInt(100) : when == -9 ? 99 : when;
        same("row(" + v + ")", x.row(v), plain.row(v));
      }
    }
    same("judge()", x.judge(), plain.judge());
  }
}
