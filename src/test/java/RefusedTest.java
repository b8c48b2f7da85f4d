/**
 * REFUSALS: every refused call answers the first that fits in the order in which its promise tells them; nothing
 * else is changed by it; count 11 to 16 tells it. A method here for each promise that refuses something.
 */
public final class RefusedTest {
  private static final Check check = new Check("RefusedTest");
  private static final int MIN = Integer.MIN_VALUE;
  private static final int MAX = Integer.MAX_VALUE;

  /** No THINGS of 6, some of which a shift by 32 would take for one of them. */
  private static final int[] NOBODY_OF_6 = {-1, 6, 9, 31, 32, 37, -27, -32, MIN, MAX};
  private static final int[] NOBODY_OF_9 = {-1, 9, 10, 31, 32, 40, -32, MIN, MAX};
  private static final int[] NOBODY_OF_NONE = {-1, 0, 1, 8, 32, MIN, MAX};
  private static final int[] NO_PART = {-1, 2, MIN, MAX};
  private static final int[] BELOW_0 = {-1, -2, -100, MIN};
  private static final int[] BELOW_1 = {0, -1, -60, MIN};
  private static final int[] ABOVE_30 = {31, 32, 60, MAX};
  private static final int[] ABOVE_60 = {61, 62, 999, MAX};

  private static final Alike SIX = new Alike(check, "of six", RefusedTest::six);
  private static final Alike NINE = new Alike(check, "of nine", RefusedTest::nine);
  private static final Alike NOTHING = new Alike(check, "of nothing", RefusedTest::nothing);
  private static final Alike FULL = new Alike(check, "of the full", RefusedTest::full);

  public static void main(String[] args) {
    rowsAreRight();
    letter();
    thing();
    causes();
    loses();
    mends();
    guards();
    turn();
    days();
    dayAbove999();
    lostThen();
    when();
    next();
    roots();
    guard();
    weakAndWorst();
    tackAndFewest();
    blame();
    saved();
    hooksAndTwins();
    twoNobody();
    twoNumbers();
    twoState();
    boysNobody();
    boysNumbers();
    mean();
    whatWas();
    row();
    lots();
    on();
    neverRefused();
    eachHasItsCount();
    refusedAllItsCalls();
    check.end();
  }

  /** Three of NAILS (0 LOST, 2 GUARDED), a ROW that is JUDGED right, letters, an IMAGE of before. */
  private static NailsWantTheKingdom six() {
    NailsWantTheKingdom x = Check.told("tn0;tn3;tn5;ts1;tk4;tb9;c30;c41;c43;c53;c54;");
    x.image();
    x.days(3);
    x.loses(0);
    x.guards(2);
    Check.numbers(x, 0, 99, 99, 1, 2, 3);
    Check.letters(x, "tk7;l1");
    return x;
  }

  /** Nine THINGS, of which 6, 7 and 8 are of NAILS and WHOLE, and 5 is LOST and GUARDED. */
  private static NailsWantTheKingdom nine() {
    NailsWantTheKingdom x = Check.told("tn0;tn1;ts2;th3;tb4;tk5;tw6;ts7;tn8;", "c20;c31;c32;c43;c50;c51;l5;g5;");
    x.image();
    x.turn(0, 5, 9);
    Check.numbers(x, 99, 99, 99, 99, 99, 0, 99, 99, 99);
    Check.letters(x, "g0;m5");
    return x;
  }

  private static NailsWantTheKingdom nothing() {
    NailsWantTheKingdom x = new NailsWantTheKingdom();
    x.image();
    x.row(7);
    Check.letters(x, "tk7");
    return x;
  }

  /** 96 letters, 16 numbers, 9 THINGS, DAY 999. */
  private static NailsWantTheKingdom full() {
    NailsWantTheKingdom x = nine();
    Check.onDay(x, 999);
    x.state();
    Check.letters(x, "g8;".repeat(31) + "m5;");
    Check.numbers(x, 1, 2, 3, 4, 5, 6, 99);
    return x;
  }

  /** A number changed in these ROWS would be seen by judge(). */
  private static void rowsAreRight() {
    check.due("judge() of six", six().judge(), Check.NONE);
    check.due("judge() of nine", nine().judge(), Check.NONE);
  }

  /** "-4; -6 (255; 96, too)": a number below 0 is BELOW of 96 letters, too. */
  private static void letter() {
    for (int c : BELOW_0) {
      SIX.refuses(-4, "letter(" + c + ")", x -> x.letter(c));
      FULL.refuses(-4, "letter(" + c + ")", x -> x.letter(c));
    }
    for (int c : new int[] {256, 257, 256 + 'g', 65536, MAX}) {
      SIX.refuses(-6, "letter(" + c + ")", x -> x.letter(c));
      FULL.refuses(-6, "letter(" + c + ")", x -> x.letter(c));
    }
    for (int c : new int[] {0, ';', 255}) {
      SIX.takes("letter(" + c + ")", x -> x.letter(c));
      FULL.refuses(-6, "letter(" + c + ")", x -> x.letter(c));
    }
  }

  /** "-1; -2": -1 for whichever what. */
  private static void thing() {
    for (int what : new int[] {-1, 0, 5, 6, MIN, MAX}) {
      for (int a : NOBODY_OF_6) SIX.refuses(-1, "thing(" + a + ", " + what + ")", x -> x.thing(a, what));
      for (int a : NOBODY_OF_9) NINE.refuses(-1, "thing(" + a + ", " + what + ")", x -> x.thing(a, what));
      for (int a : NOBODY_OF_NONE) NOTHING.refuses(-1, "thing(" + a + ", " + what + ")", x -> x.thing(a, what));
    }
    for (int what : new int[] {-1, 6, 7, 32, MIN, MAX}) {
      SIX.refuses(-2, "thing(0, " + what + ")", x -> x.thing(0, what));
      SIX.refuses(-2, "thing(5, " + what + ")", x -> x.thing(5, what));
      NINE.refuses(-2, "thing(8, " + what + ")", x -> x.thing(8, what));
    }
  }

  /** "-1 either; -3 it is not of a lesser number." */
  private static void causes() {
    for (int a : NOBODY_OF_6) {
      SIX.refuses(-1, "causes(" + a + ", 0)", x -> x.causes(a, 0));
      SIX.refuses(-1, "causes(5, " + a + ")", x -> x.causes(5, a));
      SIX.refuses(-1, "causes(0, " + a + ")", x -> x.causes(0, a));
      SIX.refuses(-1, "causes(" + a + ", " + a + ")", x -> x.causes(a, a));
    }
    for (int a : NOBODY_OF_9) {
      NINE.refuses(-1, "causes(" + a + ", 8)", x -> x.causes(a, 8));
      NINE.refuses(-1, "causes(8, " + a + ")", x -> x.causes(8, a));
    }
    for (int a : NOBODY_OF_NONE) NOTHING.refuses(-1, "causes(" + a + ", 0)", x -> x.causes(a, 0));
    for (int a = 0; a < 9; a++) {
      int thing = a;
      for (int b = a; b < 9; b++) {
        int cause = b;
        NINE.refuses(-3, "causes(" + a + ", " + b + ")", x -> x.causes(thing, cause));
      }
      for (int b = 0; b < a; b++) {
        int cause = b;
        NINE.takes("causes(" + a + ", " + b + ")", x -> x.causes(thing, cause));
      }
    }
  }

  /** "-1; -3 it is LOST, or GUARDED." */
  private static void loses() {
    for (int a : NOBODY_OF_6) SIX.refuses(-1, "loses(" + a + ")", x -> x.loses(a));
    for (int a : NOBODY_OF_9) NINE.refuses(-1, "loses(" + a + ")", x -> x.loses(a));
    for (int a : NOBODY_OF_NONE) NOTHING.refuses(-1, "loses(" + a + ")", x -> x.loses(a));
    SIX.refuses(-3, "loses(0), LOST", x -> x.loses(0));
    SIX.refuses(-3, "loses(2), GUARDED", x -> x.loses(2));
    NINE.refuses(-3, "loses(5), LOST and GUARDED", x -> x.loses(5));
    SIX.takes("loses(1)", x -> x.loses(1));
    SIX.takes("loses(5)", x -> x.loses(5));
    NINE.takes("loses(8)", x -> x.loses(8));
  }

  /** "-1; -3 it is WHOLE." */
  private static void mends() {
    for (int a : NOBODY_OF_6) SIX.refuses(-1, "mends(" + a + ")", x -> x.mends(a));
    for (int a : NOBODY_OF_9) NINE.refuses(-1, "mends(" + a + ")", x -> x.mends(a));
    for (int a : NOBODY_OF_NONE) NOTHING.refuses(-1, "mends(" + a + ")", x -> x.mends(a));
    SIX.refuses(-3, "mends(1), WHOLE", x -> x.mends(1));
    SIX.refuses(-3, "mends(2), WHOLE and GUARDED", x -> x.mends(2));
    NINE.refuses(-3, "mends(8), WHOLE", x -> x.mends(8));
    SIX.takes("mends(0)", x -> x.mends(0));
    NINE.takes("mends(5), GUARDED", x -> x.mends(5));
  }

  /** "-1." */
  private static void guards() {
    for (int a : NOBODY_OF_6) SIX.refuses(-1, "guards(" + a + ")", x -> x.guards(a));
    for (int a : NOBODY_OF_9) NINE.refuses(-1, "guards(" + a + ")", x -> x.guards(a));
    for (int a : NOBODY_OF_NONE) NOTHING.refuses(-1, "guards(" + a + ")", x -> x.guards(a));
    SIX.takes("guards(0), LOST", x -> x.guards(0));
    SIX.takes("guards(2), GUARDED", x -> x.guards(2));
    NINE.takes("guards(8)", x -> x.guards(8));
  }

  /** "-1; -2; -4; -6 9." */
  private static void turn() {
    for (int a : NOBODY_OF_6) {
      SIX.refuses(-1, "turn(" + a + ", 0, 0)", x -> x.turn(a, 0, 0));
      SIX.refuses(-1, "turn(" + a + ", 6, -1)", x -> x.turn(a, 6, -1));
      SIX.refuses(-1, "turn(" + a + ", 0, 10)", x -> x.turn(a, 0, 10));
    }
    for (int a : NOBODY_OF_9) NINE.refuses(-1, "turn(" + a + ", -1, 10)", x -> x.turn(a, -1, 10));
    for (int a : NOBODY_OF_NONE) NOTHING.refuses(-1, "turn(" + a + ", 0, 0)", x -> x.turn(a, 0, 0));
    for (int kind : new int[] {-1, 6, 7, MIN, MAX}) {
      for (int figure : new int[] {-1, 0, 9, 10, MIN, MAX}) {
        SIX.refuses(-2, "turn(4, " + kind + ", " + figure + ")", x -> x.turn(4, kind, figure));
      }
    }
    for (int kind : new int[] {0, 5}) {
      for (int f : BELOW_0) SIX.refuses(-4, "turn(4, " + kind + ", " + f + ")", x -> x.turn(4, kind, f));
      for (int f : new int[] {10, 11, MAX}) SIX.refuses(-6, "turn(4, " + kind + ", " + f + ")", x -> x.turn(4, kind, f));
      SIX.takes("turn(4, " + kind + ", 0)", x -> x.turn(4, kind, 0));
      SIX.takes("turn(4, " + kind + ", 9)", x -> x.turn(4, kind, 9));
    }
  }

  /** "n DAYS (1 .. 60)": "-4; -6 (60; ..)." */
  private static void days() {
    for (int n : BELOW_1) {
      SIX.refuses(-4, "days(" + n + ")", x -> x.days(n));
      NOTHING.refuses(-4, "days(" + n + ")", x -> x.days(n));
      FULL.refuses(-4, "days(" + n + ") of DAY 999", x -> x.days(n));
    }
    for (int n : ABOVE_60) {
      SIX.refuses(-6, "days(" + n + ")", x -> x.days(n));
      NOTHING.refuses(-6, "days(" + n + ")", x -> x.days(n));
      FULL.refuses(-6, "days(" + n + ") of DAY 999", x -> x.days(n));
    }
    SIX.takes("days(1)", x -> x.days(1));
    SIX.takes("days(60)", x -> x.days(60));
    NOTHING.takes("days(60)", x -> x.days(60));
  }

  /** "-6 (..; DAY above 999)": for each DAY of the last 60 as many as would pass it, and all that do not. */
  private static void dayAbove999() {
    for (int day : new int[] {939, 940, 941, 970, 998, 999}) {
      Alike late = new Alike(check, "of DAY " + day, () -> Check.onDay(six(), day));
      int left = 999 - day;
      if (left > 0) late.takes("days(" + Math.min(60, left) + ")", x -> x.days(Math.min(60, left)));
      if (left < 60) {
        late.refuses(-6, "days(" + (left + 1) + ")", x -> x.days(left + 1));
        late.refuses(-6, "days(60)", x -> x.days(60));
      }
    }
  }

  /** "(0 .. 60)": "-4; -6 60." */
  private static void lostThen() {
    for (int n : BELOW_0) SIX.refuses(-4, "lostThen(" + n + ")", x -> x.lostThen(n));
    for (int n : ABOVE_60) SIX.refuses(-6, "lostThen(" + n + ")", x -> x.lostThen(n));
    for (int n : BELOW_0) NOTHING.refuses(-4, "lostThen(" + n + ")", x -> x.lostThen(n));
    for (int n : ABOVE_60) NOTHING.refuses(-6, "lostThen(" + n + ")", x -> x.lostThen(n));
    for (int n : new int[] {0, 60}) {
      SIX.takes("lostThen(" + n + ")", x -> x.lostThen(n));
      FULL.takes("lostThen(" + n + ") of DAY 999", x -> x.lostThen(n));
    }
  }

  /** "-1." */
  private static void when() {
    for (int a : NOBODY_OF_6) SIX.refuses(-1, "when(" + a + ")", x -> x.when(a));
    for (int a : NOBODY_OF_9) NINE.refuses(-1, "when(" + a + ")", x -> x.when(a));
    for (int a : NOBODY_OF_NONE) NOTHING.refuses(-1, "when(" + a + ")", x -> x.when(a));
    SIX.takes("when(2), never", x -> x.when(2));
  }

  /** "-2." That there is none (-9) is not refused. */
  private static void next() {
    for (int what : new int[] {-1, 3, 4, MIN, MAX}) {
      SIX.refuses(-2, "next(" + what + ")", x -> x.next(what));
      NOTHING.refuses(-2, "next(" + what + ")", x -> x.next(what));
    }
    for (int what = 0; what <= 2; what++) {
      int which = what;
      SIX.takes("next(" + what + ")", x -> x.next(which));
      NOTHING.takes("next(" + what + ")", x -> x.next(which));
    }
  }

  /** "-1; -2." */
  private static void roots() {
    for (int a : NOBODY_OF_6) {
      SIX.refuses(-1, "roots(" + a + ", 0)", x -> x.roots(a, 0));
      SIX.refuses(-1, "roots(" + a + ", 1)", x -> x.roots(a, 1));
      SIX.refuses(-1, "roots(" + a + ", 2)", x -> x.roots(a, 2));
    }
    for (int a : NOBODY_OF_9) NINE.refuses(-1, "roots(" + a + ", -1)", x -> x.roots(a, -1));
    for (int a : NOBODY_OF_NONE) NOTHING.refuses(-1, "roots(" + a + ", 0)", x -> x.roots(a, 0));
    for (int what : NO_PART) SIX.refuses(-2, "roots(5, " + what + ")", x -> x.roots(5, what));
    for (int what : NO_PART) NINE.refuses(-2, "roots(8, " + what + ")", x -> x.roots(8, what));
  }

  /** "-1; -4; -6 30." That it is LOST is no refusal. */
  private static void guard() {
    for (int a : NOBODY_OF_6) {
      SIX.refuses(-1, "guard(" + a + ", 0)", x -> x.guard(a, 0));
      SIX.refuses(-1, "guard(" + a + ", -1)", x -> x.guard(a, -1));
      SIX.refuses(-1, "guard(" + a + ", 31)", x -> x.guard(a, 31));
    }
    for (int a : NOBODY_OF_9) NINE.refuses(-1, "guard(" + a + ", 30)", x -> x.guard(a, 30));
    for (int a : NOBODY_OF_NONE) NOTHING.refuses(-1, "guard(" + a + ", 0)", x -> x.guard(a, 0));
    for (int a = 0; a < 6; a++) {
      int thing = a;
      for (int n : BELOW_0) SIX.refuses(-4, "guard(" + a + ", " + n + ")", x -> x.guard(thing, n));
      for (int n : ABOVE_30) SIX.refuses(-6, "guard(" + a + ", " + n + ")", x -> x.guard(thing, n));
      for (int n : new int[] {0, 30}) SIX.takes("guard(" + a + ", " + n + ")", x -> x.guard(thing, n));
    }
  }

  /** "-4; -6 30", of nothing, too. */
  private static void weakAndWorst() {
    for (Alike one : new Alike[] {SIX, NINE, NOTHING}) {
      for (int n : BELOW_0) {
        one.refuses(-4, "weak(" + n + ")", x -> x.weak(n));
        one.refuses(-4, "worst(" + n + ")", x -> x.worst(n));
      }
      for (int n : ABOVE_30) {
        one.refuses(-6, "weak(" + n + ")", x -> x.weak(n));
        one.refuses(-6, "worst(" + n + ")", x -> x.worst(n));
      }
      for (int n : new int[] {0, 30}) {
        one.takes("weak(" + n + ")", x -> x.weak(n));
        one.takes("worst(" + n + ")", x -> x.worst(n));
      }
    }
  }

  /** "-1." Of one that is LOST or GUARDED they are not refused. */
  private static void tackAndFewest() {
    for (int a : NOBODY_OF_6) SIX.refuses(-1, "tack(" + a + ")", x -> x.tack(a));
    for (int a : NOBODY_OF_6) SIX.refuses(-1, "fewest(" + a + ")", x -> x.fewest(a));
    for (int a : NOBODY_OF_9) NINE.refuses(-1, "tack(" + a + ")", x -> x.tack(a));
    for (int a : NOBODY_OF_9) NINE.refuses(-1, "fewest(" + a + ")", x -> x.fewest(a));
    for (int a : NOBODY_OF_NONE) NOTHING.refuses(-1, "tack(" + a + ")", x -> x.tack(a));
    for (int a : NOBODY_OF_NONE) NOTHING.refuses(-1, "fewest(" + a + ")", x -> x.fewest(a));
    for (int a = 0; a < 6; a++) {
      int thing = a;
      SIX.takes("tack(" + a + ")", x -> x.tack(thing));
      SIX.takes("fewest(" + a + ")", x -> x.fewest(thing));
    }
  }

  /** "Refused as told: -1 either; -3 it is not one of the first 5 of NAILS; -2." */
  private static void blame() {
    for (int a : NOBODY_OF_6) {
      for (int part : new int[] {-1, 0, 1, 2}) {
        SIX.refusesLong(-1, "blame(" + a + ", 0, " + part + ")", x -> x.blame(a, 0, part));
        SIX.refusesLong(-1, "blame(0, " + a + ", " + part + ")", x -> x.blame(0, a, part));
        SIX.refusesLong(-1, "blame(3, " + a + ", " + part + ")", x -> x.blame(3, a, part));
      }
      SIX.refusesLong(-1, "blame(" + a + ", " + a + ", 0)", x -> x.blame(a, a, 0));
    }
    for (int a : NOBODY_OF_NONE) NOTHING.refusesLong(-1, "blame(" + a + ", 0, 0)", x -> x.blame(a, 0, 0));
    for (int part : new int[] {-1, 0, 1, 2, MIN, MAX}) {
      SIX.refusesLong(-3, "blame(3, 0, " + part + ")", x -> x.blame(3, 0, part));
      SIX.refusesLong(-3, "blame(5, 5, " + part + ")", x -> x.blame(5, 5, part));
      NINE.refusesLong(-3, "blame(2, 2, " + part + ")", x -> x.blame(2, 2, part));
    }
    for (int part : NO_PART) {
      SIX.refusesLong(-2, "blame(0, 5, " + part + ")", x -> x.blame(0, 5, part));
      SIX.refusesLong(-2, "blame(2, 2, " + part + ")", x -> x.blame(2, 2, part));
    }
    for (int part : new int[] {0, 1}) {
      SIX.takes("blame(0, 0, " + part + "), one twice, LOST", x -> x.blame(0, 0, part));
      SIX.takes("blame(2, 5, " + part + "), GUARDED", x -> x.blame(2, 5, part));
    }
    blameOfTheSixth();
  }

  /** "one of the first 5 of NAILS (fewer, if there are fewer)": the fifth of them is, the sixth is not. */
  private static void blameOfTheSixth() {
    Alike seven = new Alike(check, "of seven NAILS", () -> {
      NailsWantTheKingdom x = Check.told("tn0;tn0;ts0;tn0;tn0;tn0;ts0;tn0;tn0;", "c20;c61;c62;");
      x.image();
      return x;
    });
    for (int nail : new int[] {0, 1, 3, 4, 5}) seven.takes("blame(" + nail + ", 6, 0)", x -> x.blame(nail, 6, 0));
    for (int nail : new int[] {2, 6, 7, 8}) {
      seven.refusesLong(-3, "blame(" + nail + ", 6, 0)", x -> x.blame(nail, 6, 0));
      seven.refusesLong(-3, "blame(" + nail + ", 6, 2)", x -> x.blame(nail, 6, 2));
    }
  }

  /** "-1; -4; -6 30." Of one that is WHOLE it is 0, not refused. */
  private static void saved() {
    for (int a : NOBODY_OF_6) {
      SIX.refuses(-1, "saved(" + a + ", 0)", x -> x.saved(a, 0));
      SIX.refuses(-1, "saved(" + a + ", -1)", x -> x.saved(a, -1));
      SIX.refuses(-1, "saved(" + a + ", 31)", x -> x.saved(a, 31));
    }
    for (int a : NOBODY_OF_9) NINE.refuses(-1, "saved(" + a + ", 30)", x -> x.saved(a, 30));
    for (int a : NOBODY_OF_NONE) NOTHING.refuses(-1, "saved(" + a + ", 0)", x -> x.saved(a, 0));
    for (int a = 0; a < 6; a++) {
      int thing = a;
      for (int n : BELOW_0) SIX.refuses(-4, "saved(" + a + ", " + n + ")", x -> x.saved(thing, n));
      for (int n : ABOVE_30) SIX.refuses(-6, "saved(" + a + ", " + n + ")", x -> x.saved(thing, n));
      for (int n : new int[] {0, 30}) SIX.takes("saved(" + a + ", " + n + ")", x -> x.saved(thing, n));
    }
  }

  /** "-2", of nothing, too. */
  private static void hooksAndTwins() {
    for (Alike one : new Alike[] {SIX, NINE, NOTHING}) {
      for (int what : NO_PART) {
        one.refuses(-2, "hooks(" + what + ")", x -> x.hooks(what));
        one.refuses(-2, "twins(" + what + ")", x -> x.twins(what));
      }
      for (int what : new int[] {0, 1}) {
        one.takes("hooks(" + what + ")", x -> x.hooks(what));
        one.takes("twins(" + what + ")", x -> x.twins(what));
      }
    }
  }

  /** "-1 either (one twice, too)", ahead of -4, -6 and -3. */
  private static void twoNobody() {
    for (int n : new int[] {-1, 0, 30, 31, MIN, MAX}) {
      for (int a : NOBODY_OF_6) {
        SIX.refuses(-1, "two(" + a + ", 1, " + n + ")", x -> x.two(a, 1, n));
        SIX.refuses(-1, "two(1, " + a + ", " + n + ")", x -> x.two(1, a, n));
        SIX.refuses(-1, "two(" + a + ", " + a + ", " + n + ")", x -> x.two(a, a, n));
      }
      for (int a = 0; a < 6; a++) {
        int one = a;
        SIX.refuses(-1, "two(" + a + ", " + a + ", " + n + ")", x -> x.two(one, one, n));
      }
      NINE.refuses(-1, "two(9, 8, " + n + ")", x -> x.two(9, 8, n));
      NINE.refuses(-1, "two(8, 9, " + n + ")", x -> x.two(8, 9, n));
      NINE.refuses(-1, "two(8, 8, " + n + ")", x -> x.two(8, 8, n));
      NOTHING.refuses(-1, "two(0, 1, " + n + ")", x -> x.two(0, 1, n));
    }
  }

  /** "-4; -6 30", ahead of -3. */
  private static void twoNumbers() {
    int[][] twos = {{6, 8}, {8, 6}, {2, 8}, {6, 5}, {3, 4}};
    for (int[] two : twos) {
      int a = two[0];
      int b = two[1];
      for (int n : BELOW_0) NINE.refuses(-4, "two(" + a + ", " + b + ", " + n + ")", x -> x.two(a, b, n));
      for (int n : ABOVE_30) NINE.refuses(-6, "two(" + a + ", " + b + ", " + n + ")", x -> x.two(a, b, n));
    }
    NINE.takes("two(6, 8, 0)", x -> x.two(6, 8, 0));
    NINE.takes("two(8, 6, 30)", x -> x.two(8, 6, 30));
  }

  /** "-3 either is not of NAILS, is LOST, or GUARDED": each of these of the first and of the second alone, and of both. */
  private static void twoState() {
    for (int n : new int[] {0, 30}) {
      SIX.refuses(-3, "two(0, 1, " + n + "), the first LOST", x -> x.two(0, 1, n));
      SIX.refuses(-3, "two(1, 0, " + n + "), the second LOST", x -> x.two(1, 0, n));
      SIX.refuses(-3, "two(2, 1, " + n + "), the first GUARDED", x -> x.two(2, 1, n));
      SIX.refuses(-3, "two(1, 2, " + n + "), the second GUARDED", x -> x.two(1, 2, n));
      SIX.refuses(-3, "two(3, 1, " + n + "), the first not of NAILS", x -> x.two(3, 1, n));
      SIX.refuses(-3, "two(1, 3, " + n + "), the second not of NAILS", x -> x.two(1, 3, n));
      SIX.refuses(-3, "two(0, 2, " + n + "), LOST and GUARDED", x -> x.two(0, 2, n));
      SIX.refuses(-3, "two(4, 5, " + n + "), neither of NAILS", x -> x.two(4, 5, n));
      NINE.refuses(-3, "two(5, 8, " + n + "), LOST, GUARDED, not of NAILS", x -> x.two(5, 8, n));
      NINE.takes("two(6, 7, " + n + "), of whichever KIND", x -> x.two(6, 7, n));
    }
  }

  /** "-1 either", ahead of -4, -6 and -2; one twice is not refused. */
  private static void boysNobody() {
    int[][] numbers = {{0, 2, 0}, {-1, 2, 0}, {7, 2, 0}, {0, 1, 0}, {0, 21, 0}, {0, 2, 2}, {-1, 21, -1}};
    for (int[] q : numbers) {
      String text = ", " + q[0] + ", " + q[1] + ", " + q[2] + ")";
      for (int a : NOBODY_OF_6) {
        SIX.refusesLong(-1, "boys(" + a + ", 0" + text, x -> x.boys(a, 0, q[0], q[1], q[2]));
        SIX.refusesLong(-1, "boys(0, " + a + text, x -> x.boys(0, a, q[0], q[1], q[2]));
      }
      NINE.refusesLong(-1, "boys(9, 8" + text, x -> x.boys(9, 8, q[0], q[1], q[2]));
      NINE.refusesLong(-1, "boys(8, 9" + text, x -> x.boys(8, 9, q[0], q[1], q[2]));
      NOTHING.refusesLong(-1, "boys(0, 0" + text, x -> x.boys(0, 0, q[0], q[1], q[2]));
    }
    SIX.takes("boys(2, 2, 6, 20, 1), one twice", x -> x.boys(2, 2, 6, 20, 1));
  }

  /** "-4 (n; t below 2); -6 (6; 20); -2": what is below goes ahead of what is above, that ahead of the part. */
  private static void boysNumbers() {
    for (int part : new int[] {-1, 0, 1, 2, MIN, MAX}) {
      for (int n : BELOW_0) {
        for (int t : new int[] {MIN, 1, 2, 20, 21, MAX}) {
          SIX.refusesLong(-4, "boys(0, 5, " + n + ", " + t + ", " + part + ")", x -> x.boys(0, 5, n, t, part));
        }
      }
      for (int t : new int[] {1, 0, -1, MIN}) {
        for (int n : new int[] {0, 6, 7, MAX}) {
          SIX.refusesLong(-4, "boys(0, 5, " + n + ", " + t + ", " + part + ")", x -> x.boys(0, 5, n, t, part));
        }
      }
      for (int n : new int[] {7, 8, MAX}) {
        for (int t : new int[] {2, 20, 21, MAX}) {
          SIX.refusesLong(-6, "boys(0, 5, " + n + ", " + t + ", " + part + ")", x -> x.boys(0, 5, n, t, part));
        }
      }
      for (int t : new int[] {21, 22, MAX}) {
        for (int n : new int[] {0, 6}) {
          SIX.refusesLong(-6, "boys(0, 5, " + n + ", " + t + ", " + part + ")", x -> x.boys(0, 5, n, t, part));
        }
      }
    }
    for (int n : new int[] {0, 6}) {
      for (int t : new int[] {2, 20}) {
        for (int part : NO_PART) {
          SIX.refusesLong(-2, "boys(0, 5, " + n + ", " + t + ", " + part + ")", x -> x.boys(0, 5, n, t, part));
        }
        for (int part : new int[] {0, 1}) {
          SIX.takes("boys(0, 5, " + n + ", " + t + ", " + part + ")", x -> x.boys(0, 5, n, t, part));
        }
      }
    }
  }

  /** "Refused as told: -2", of nothing, too. */
  private static void mean() {
    for (Alike one : new Alike[] {SIX, NINE, NOTHING}) {
      for (int part : NO_PART) one.refusesLong(-2, "mean(" + part + ")", x -> x.mean(part));
      for (int part : new int[] {0, 1}) one.takes("mean(" + part + ")", x -> x.mean(part));
    }
  }

  /** "-1; -2." */
  private static void whatWas() {
    for (int a : NOBODY_OF_6) {
      for (int what : new int[] {-1, 0, 1, 2}) {
        SIX.refuses(-1, "whatWas(" + a + ", " + what + ")", x -> x.whatWas(a, what));
      }
    }
    for (int a : NOBODY_OF_9) NINE.refuses(-1, "whatWas(" + a + ", 0)", x -> x.whatWas(a, 0));
    for (int a : NOBODY_OF_NONE) NOTHING.refuses(-1, "whatWas(" + a + ", 0)", x -> x.whatWas(a, 0));
    for (int what : NO_PART) SIX.refuses(-2, "whatWas(0, " + what + ")", x -> x.whatWas(0, what));
    for (int what : NO_PART) NINE.refuses(-2, "whatWas(8, " + what + ")", x -> x.whatWas(8, what));
  }

  /** "-4; -6 (99; 16, too)": a number below 0 is BELOW of 16 numbers, too. */
  private static void row() {
    for (int v : BELOW_0) {
      SIX.refuses(-4, "row(" + v + ")", x -> x.row(v));
      FULL.refuses(-4, "row(" + v + ")", x -> x.row(v));
    }
    for (int v : new int[] {100, 101, 256, MAX}) {
      SIX.refuses(-6, "row(" + v + ")", x -> x.row(v));
      FULL.refuses(-6, "row(" + v + ")", x -> x.row(v));
    }
    for (int v : new int[] {0, 1, 99}) {
      SIX.takes("row(" + v + ")", x -> x.row(v));
      FULL.refuses(-6, "row(" + v + ")", x -> x.row(v));
    }
  }

  /** "-4; -6 20; -2; -3 no THINGS." No seed is refused. */
  private static void lots() {
    int[] seeds = {0, -1, MIN, MAX};
    for (Alike one : new Alike[] {SIX, NOTHING}) {
      for (int what : new int[] {-1, 0, 1, 2, MIN, MAX}) {
        for (int n : BELOW_1) one.refuses(-4, "lots(" + n + ", 0, " + what + ")", x -> x.lots(n, 0, what));
        for (int n : new int[] {21, 22, MAX}) one.refuses(-6, "lots(" + n + ", 0, " + what + ")", x -> x.lots(n, 0, what));
      }
      for (int n : new int[] {1, 20}) {
        for (int what : NO_PART) one.refuses(-2, "lots(" + n + ", 7, " + what + ")", x -> x.lots(n, 7, what));
      }
    }
    for (int z : seeds) {
      for (int n : new int[] {1, 20}) {
        for (int what : new int[] {0, 1}) {
          NOTHING.refuses(-3, "lots(" + n + ", " + z + ", " + what + ")", x -> x.lots(n, z, what));
          SIX.takes("lots(" + n + ", " + z + ", " + what + ")", x -> x.lots(n, z, what));
        }
      }
    }
  }

  /** "-3 there is none." */
  private static void on() {
    new Alike(check, "new", NailsWantTheKingdom::new).refuses(-3, "on()", x -> x.on());
    new Alike(check, "without an IMAGE", () -> Check.told("tn0;ts1;c10;l0;d05;")).refuses(-3, "on()", x -> x.on());
    SIX.takes("on()", x -> x.on());
    NOTHING.takes("on() from nothing", x -> x.on());
  }

  /** What tells no REFUSALS has none; a FAULT, -9 and another what of count are none. */
  private static void neverRefused() {
    for (Alike one : new Alike[] {SIX, NINE, NOTHING, FULL}) {
      one.takes("state()", x -> x.state());
      one.takes("nails()", x -> x.nails());
      one.takes("key()", x -> x.key());
      one.takes("judge()", x -> x.judge());
      one.takes("clear()", x -> x.clear());
      one.takes("image()", x -> x.image());
      for (int what : new int[] {-1, 8, 9, 10, 17, MIN, MAX}) one.takes("count(" + what + ")", x -> x.count(what));
    }
  }

  /** Count 11 is of -1, .., 16 of -6, each by itself. */
  private static void eachHasItsCount() {
    NailsWantTheKingdom x = six();
    for (int i = 0; i < 1; i++) x.when(6);
    for (int i = 0; i < 2; i++) x.mean(2);
    for (int i = 0; i < 3; i++) x.loses(0);
    for (int i = 0; i < 4; i++) x.weak(-1);
    for (int i = 0; i < 6; i++) x.boys(0, 0, 0, 21, 0);
    int[] due = {1, 2, 3, 4, 0, 6};
    for (int i = 0; i < due.length; i++) check.due("count(" + (11 + i) + ")", x.count(11 + i), due[i]);
  }

  /** As many REFUSALS as an object has calls. */
  private static void refusedAllItsCalls() {
    NailsWantTheKingdom x = new NailsWantTheKingdom();
    for (int i = 0; i < 510; i++) x.guards(0);
    check.due("510 of -1", x.count(11), 510);
    check.due("none of -2", x.count(12), 0);
  }
}
