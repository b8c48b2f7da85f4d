/** The bounds of BLAME, KEY, TWINS, TWO, BOYS and MEAN, and fractions (promises 21, 24 to 28): a method for each sentence. */
public final class OddsBoundsTest {
  private static final Check check = new Check("OddsBoundsTest");
  private static final int NONE = -9;
  private static final String NINE = "tn0;tn0;tn0;tn0;tn0;tn0;tn0;tn0;tn0;";

  public static void main(String[] args) {
    blameOfOneNail();
    blameOfFewerThanFive();
    blameOfFiveOfNine();
    blameWithin10Days();
    blameAllWholeNothingGuarded();
    blameInLeastTerms();
    keyOfNoneAndOfNine();
    keyOfSeveral();
    twinsFromNoneTo36();
    twinsTheFirst();
    twinsOfOtherCauses();
    twoBehind0And30();
    twoByOneAndTwoAndThree();
    twoByWhicheverNumbers();
    boysOnNoDay();
    boysFrom0To6Days();
    boysByOddsFrom2To20();
    boysNeverAndAlways();
    boysFindTheToldOneItself();
    boysInLeastTerms();
    meanOfNone();
    meanFromLeastToGreatest();
    meanInLeastTerms();
    nothingIsChanged();
    check.end();
  }

  private static void blamed(NailsWantTheKingdom x, int nail, int thing, long above, long below) {
    check.due("blame(" + nail + ", " + thing + ", 0)", x.blame(nail, thing, 0), above);
    check.due("blame(" + nail + ", " + thing + ", 1)", x.blame(nail, thing, 1), below);
  }

  /** One of NAILS alone: one order; 1 is told as 1 by 1, 0 as 0 by 1. */
  private static void blameOfOneNail() {
    NailsWantTheKingdom x = Check.told("tn0;ts0;tn0;c10;c20;");
    blamed(x, 0, 0, 1, 1);
    blamed(x, 0, 1, 1, 1);
    blamed(x, 0, 2, 0, 1);
    NailsWantTheKingdom y = Check.told("tw9;");
    blamed(y, 0, 0, 1, 1);
  }

  /** "(fewer, if there are fewer)": of k of NAILS by a SHOE, a BATTLE of them each has 1 by k; itself has 1 by 1. */
  private static void blameOfFewerThanFive() {
    for (int k = 1; k <= 5; k++) {
      NailsWantTheKingdom x = Check.told(NINE.substring(0, 4 * k) + "ts0;tb0;tn0;");
      for (int j = 0; j < k; j++) {
        x.causes(k, j);
        x.causes(k + 1, j);
      }
      x.causes(k + 2, 0);
      for (int nail = 0; nail < k; nail++) {
        blamed(x, nail, k, 1, k);
        blamed(x, nail, k + 1, 1, k);
        for (int other = 0; other < k; other++) blamed(x, nail, other, nail == other ? 1 : 0, 1);
      }
      check.due("blame of the SHOE", x.blame(k, k, 0), 4000000000000000003L);
    }
  }

  /** "one of the first 5 of NAILS": the sixth and those behind it stay WHOLE. */
  private static void blameOfFiveOfNine() {
    NailsWantTheKingdom x = Check.told("tn0;tn0;tn0;tn0;tn0;tn0;tn0;ts0;tb0;", "c75;c76;c80;c81;c82;c83;c84;c85;");
    for (int nail = 0; nail < 5; nail++) {
      blamed(x, nail, 7, 0, 1);
      blamed(x, nail, 8, 0, 1);
      blamed(x, nail, 5, 0, 1);
    }
    check.due("the sixth", x.blame(5, 7, 0), 4000000000000000003L);
    x.causes(8, 5);
    x.causes(7, 4);
    for (int nail = 0; nail < 5; nail++) {
      blamed(x, nail, 8, 1, 5);
      blamed(x, nail, 7, nail == 4 ? 1 : 0, 1);
    }
    x.causes(2, 0);
    blamed(x, 5, 7, 1, 2);
    blamed(x, 4, 7, 1, 2);
    check.due("the sixth is another one", x.blame(6, 7, 0), 4000000000000000003L);
    check.due("not of NAILS any more", x.blame(2, 7, 0), 4000000000000000003L);
  }

  /** "behind each 10 DAYS go by": what is LOST on the tenth is of it, on the eleventh of the next one's, or of none. */
  private static void blameWithin10Days() {
    for (int day = 0; day <= 20; day++) {
      NailsWantTheKingdom x = Check.onDay(Check.told("tn0;tk9;ts0;c10;c21;"), day);
      blamed(x, 0, 1, 1, 1);
      blamed(x, 0, 2, day % 10 == 0 ? 0 : 1, 1);
    }
    // 2 is LOST on the tenth DAY, 3 on the eleventh, by then the other one is LOST: it is blamed, if it comes behind
    NailsWantTheKingdom y = Check.told("tn0;tn0;tk9;ts0;c20;c32;");
    blamed(y, 0, 2, 1, 1);
    blamed(y, 0, 3, 0, 1);
    blamed(y, 1, 3, 1, 2);
    y.days(1);
    blamed(y, 0, 3, 1, 1);
    blamed(y, 1, 3, 0, 1);
    y.days(9);
    blamed(y, 0, 3, 0, 1);
    blamed(y, 1, 3, 1, 2);
  }

  /** "all THINGS WHOLE, nothing GUARDED, in mind": whatever is LOST and GUARDED now. */
  private static void blameAllWholeNothingGuarded() {
    for (int lost = 0; lost < 16; lost++) {
      for (int guarded = 0; guarded < 16; guarded++) {
        NailsWantTheKingdom x = Check.told("tn0;tn0;tb0;ts0;c20;c21;c32;");
        for (int i = 0; i < 4; i++) {
          if ((lost >> i & 1) == 1) x.loses(i);
          if ((guarded >> i & 1) == 1) x.guards(i);
        }
        blamed(x, 0, 3, 1, 2);
        check.due("LOST stays", x.count(2), lost);
        check.due("GUARDED stays", x.count(3), guarded);
      }
    }
  }

  /** Of 24 and of 120 orders. */
  private static void blameInLeastTerms() {
    NailsWantTheKingdom x = Check.told("tn0;tn0;tn0;tn0;th0;tw0;ts0;c40;c41;c42;", "c50;c51;c52;c53;c60;c64;");
    // of four: 4 falls by the second of 0, 1, 2; 5 by the third of all
    blamed(x, 0, 4, 1, 3);
    blamed(x, 3, 4, 0, 1);
    blamed(x, 3, 5, 1, 4);
    // 6 falls by 0, or by the second of 1, 2: 0 ahead of at least one of them, or behind just one
    blamed(x, 0, 6, 2, 3);
    blamed(x, 1, 6, 1, 6);
    blamed(x, 2, 6, 1, 6);
    Check.tell(x, "tn0;");
    blamed(x, 0, 6, 2, 3);
    blamed(x, 7, 6, 0, 1);
    blamed(x, 7, 5, 0, 1);
    x.causes(5, 0);
    blamed(x, 7, 5, 0, 1);
    blamed(x, 1, 5, 1, 3);
  }

  /** "KEY: of all THINGS the one with most FRUITS ..; -9." */
  private static void keyOfNoneAndOfNine() {
    check.due("key() of nothing", new NailsWantTheKingdom().key(), NONE);
    NailsWantTheKingdom x = new NailsWantTheKingdom();
    for (int i = 0; i < 9; i++) {
      Check.tell(x, "tn0;");
      check.due("key() of " + (i + 1) + " without FRUITS", x.key(), 0);
    }
    x.causes(8, 7);
    check.due("key(): the one with one", x.key(), 7);
    x.causes(7, 6);
    check.due("key(): the one with two, one of them of the other", x.key(), 6);
    x.loses(6);
    x.guards(6);
    check.due("key(): LOST and GUARDED", x.key(), 6);
  }

  /** "of several the least": one of more FRUITS alone goes ahead of it. */
  private static void keyOfSeveral() {
    NailsWantTheKingdom x = Check.told(NINE, "c84;c74;c63;c53;");
    check.due("two each", x.key(), 3);
    x.causes(2, 0);
    check.due("another one with one", x.key(), 3);
    x.causes(6, 4);
    check.due("three", x.key(), 4);
    x.causes(1, 0);
    x.causes(3, 1);
    check.due("the least, by those of those", x.key(), 0);
  }

  /** "how many twos have the same CAUSES and KINDS": of k alike k (k - 1) / 2; FIGURES, LOST and GUARDED are not looked at. */
  private static void twinsFromNoneTo36() {
    NailsWantTheKingdom x = new NailsWantTheKingdom();
    check.due("twins(0) of nothing", x.twins(0), 0);
    check.due("twins(1) of nothing", x.twins(1), NONE);
    for (int k = 1; k <= 9; k++) {
      Check.tell(x, "tk" + k + ";");
      check.due("twins(0) of " + k, x.twins(0), k * (k - 1) / 2);
      check.due("twins(1) of " + k, x.twins(1), k == 1 ? NONE : 1);
    }
    x.loses(0);
    x.guards(1);
    check.due("LOST, GUARDED", x.twins(0), 36);
    for (int i = 0; i < 6; i++) x.turn(i, i, 0);
    check.due("4, 6, 7 and 8 are KITES", x.twins(0), 6);
    check.due("the first", x.twins(1), 46);
  }

  /** "the first (10 the lesser and the other); -9": each two of nine, the only ones alike. */
  private static void twinsTheFirst() {
    for (int a = 0; a < 9; a++) {
      for (int b = a + 1; b < 9; b++) {
        NailsWantTheKingdom x = onlyAlike(a, b);
        twins(x, 1, 10 * a + b);
        x.turn(b, 5, b);
        twins(x, 0, NONE);
        x.turn(a, 5, 0);
        twins(x, 1, 10 * a + b);
        x.causes(b, 0);
        twins(x, 0, NONE);
      }
    }
  }

  private static void twins(NailsWantTheKingdom x, int howMany, int first) {
    check.due("twins(0)", x.twins(0), howMany);
    check.due("twins(1)", x.twins(1), first);
  }

  /** "the same CAUSES": as many others are not the same, nor some of them. */
  private static void twinsOfOtherCauses() {
    NailsWantTheKingdom x = Check.told("tn0;ts0;th0;tw0;tw0;", "c30;c41;");
    twins(x, 0, NONE);
    x.causes(3, 1);
    twins(x, 0, NONE);
    x.causes(4, 2);
    twins(x, 0, NONE);
    x.causes(4, 0);
    twins(x, 0, NONE);
    x.causes(3, 2);
    twins(x, 1, 34);
    x.causes(3, 2);
    x.causes(4, 2);
    twins(x, 1, 34);
    x.causes(4, 3);
    twins(x, 0, NONE);
  }

  /** Two KITES, and seven others of which no two have the same KIND and CAUSES. */
  private static NailsWantTheKingdom onlyAlike(int a, int b) {
    NailsWantTheKingdom x = new NailsWantTheKingdom();
    int others = 0;
    for (int i = 0; i < 9; i++) {
      boolean isOther = i != a && i != b;
      Check.tell(x, "t" + (isOther ? "nshbnsh".charAt(others) : 'k') + i + ";");
      if (isOther && others >= 4) x.causes(i, 0);
      if (isOther) others++;
    }
    return x;
  }

  /** "behind n DAYS (0 .. 30)": he gains two more on the thirtieth DAY alone. */
  private static void twoBehind0And30() {
    NailsWantTheKingdom x = Check.told("tn0;tn0;tn0;tk9;tk9;tk9;th0;th0;", "c32;c43;c54;c60;c65;c70;c75;d01;l2;");
    for (int n = 0; n <= 30; n++) {
      check.due("two(0, 1, " + n + ")", x.two(0, 1, n), n < 30 ? 0 : 10);
      check.due("two(1, 0, " + n + ")", x.two(1, 0, n), 0);
    }
  }

  /** "as if 2 fewer, if he loses his"; "by which neither has it better by another one alone": as good is not better. */
  private static void twoByOneAndTwoAndThree() {
    NailsWantTheKingdom x = Check.told("tn0;tn0;ts0;ts0;ts0;", "c20;c30;c40;");
    check.due("one LOST: not worth it", x.two(0, 1, 0), 0);
    check.due("four LOST: worth it", x.two(0, 1, 1), 10);
    x.guards(4);
    check.due("three LOST: worth it", x.two(0, 1, 1), 10);
    x.guards(3);
    check.due("two LOST: as good, so the first pair", x.two(0, 1, 1), 0);
    x.guards(2);
    check.due("one LOST by 0", x.two(0, 1, 30), 0);
    check.due("the other first", x.two(1, 0, 30), 0);
    NailsWantTheKingdom y = Check.told("tn0;tn0;th0;th0;th0;", "c20;c21;c30;c31;c40;c41;");
    check.due("more by both alone: the second does not", y.two(0, 1, 30), 0);
    check.due("and so the other way", y.two(1, 0, 30), 0);
  }

  /** "10 the first's and the other's", whichever numbers the NAILS have. */
  private static void twoByWhicheverNumbers() {
    for (int a = 0; a < 6; a++) {
      for (int b = 0; b < 6; b++) {
        if (a == b) continue;
        NailsWantTheKingdom x = Check.told("tn0;tn0;tn0;tn0;tn0;tn0;ts0;ts0;ts0;");
        for (int i = 6; i < 9; i++) x.causes(i, a);
        check.due("two(" + a + ", " + b + ", 1)", x.two(a, b, 1), 10);
        check.due("two(" + b + ", " + a + ", 1)", x.two(b, a, 1), 0);
      }
    }
    NailsWantTheKingdom last = Check.told("ts0;ts0;ts0;ts0;ts0;ts0;ts0;tn0;tn0;");
    check.due("two(7, 8, 30)", last.two(7, 8, 30), 0);
    check.due("two(8, 7, 30)", last.two(8, 7, 30), 0);
    last.causes(8, 7);
    check.due("8 is none of NAILS any more", last.two(8, 7, 30), -3);
  }

  private static void found(NailsWantTheKingdom x, int[] call, long above, long below) {
    String text = "boys(" + call[0] + ", " + call[1] + ", " + call[2] + ", " + call[3];
    check.due(text + ", 0)", x.boys(call[0], call[1], call[2], call[3], 0), above);
    check.due(text + ", 1)", x.boys(call[0], call[1], call[2], call[3], 1), below);
  }

  /** "n DAYS (0 .. 6)": behind none of them it is as it is now. */
  private static void boysOnNoDay() {
    NailsWantTheKingdom x = Check.told("tn0;ts0;ts0;c10;c21;l0;");
    for (int t : new int[] {2, 3, 19, 20}) {
      for (int found = 0; found < 3; found++) {
        found(x, new int[] {found, 0, 0, t}, 1, 1);
        found(x, new int[] {found, 1, 0, t}, 0, 1);
        found(x, new int[] {found, 2, 0, t}, 0, 1);
      }
    }
  }

  /** Found on none of n DAYS, it is LOST behind them: (t - 1) ^ n by t ^ n, each n and t. */
  private static void boysFrom0To6Days() {
    NailsWantTheKingdom x = Check.told("tn0;l0;");
    for (int t = 2; t <= 20; t++) {
      long above = 1;
      long below = 1;
      for (int n = 0; n <= 6; n++) {
        found(x, new int[] {0, 0, n, t}, above, below);
        above *= t - 1;
        below *= t;
      }
    }
    found(x, new int[] {0, 0, 6, 2}, 1, 64);
    found(x, new int[] {0, 0, 6, 20}, 47045881, 64000000);
  }

  /** "with odds 1 in t (2 .. 20)": ahead of the first DAY alone. */
  private static void boysByOddsFrom2To20() {
    NailsWantTheKingdom x = Check.told("tn0;ts0;c10;l0;");
    for (int t = 2; t <= 20; t++) {
      for (int n = 1; n <= 6; n++) found(x, new int[] {0, 1, n, t}, t - 1, t);
    }
  }

  /** "0 as 0 by 1", and 1 as 1 by 1. */
  private static void boysNeverAndAlways() {
    NailsWantTheKingdom x = Check.told("tn0;tn0;ts0;ts0;ts0;ts0;ts0;ts0;ts0;", "c20;c32;c43;c54;c65;c76;c87;l1;l0;");
    found(x, new int[] {1, 0, 6, 20}, 1, 1);
    found(x, new int[] {1, 7, 6, 20}, 1, 1);
    found(x, new int[] {1, 8, 6, 20}, 0, 1);
    found(x, new int[] {8, 7, 6, 2}, 1, 1);
    found(x, new int[] {0, 8, 6, 2}, 0, 1);
    // the last one in a row falls on the sixth DAY, if 0 is not found ahead of the first
    found(x, new int[] {0, 7, 6, 2}, 1, 2);
    found(x, new int[] {0, 7, 5, 2}, 0, 1);
    x.guards(2);
    found(x, new int[] {0, 7, 6, 2}, 0, 1);
  }

  /** One twice: found ahead of a DAY, it is LOST again on it, if it comes to it. */
  private static void boysFindTheToldOneItself() {
    NailsWantTheKingdom x = Check.told("tn0;ts0;c10;l0;l1;");
    found(x, new int[] {1, 1, 6, 2}, 1, 1);
    x.guards(1);
    found(x, new int[] {1, 1, 6, 2}, 1, 64);
    found(x, new int[] {1, 1, 1, 20}, 19, 20);
    x.guards(1);
    x.mends(0);
    found(x, new int[] {1, 1, 2, 3}, 4, 9);
  }

  /** Least terms of sums of several ways. */
  private static void boysInLeastTerms() {
    // 1 falls on DAYS 2, 4, 6, if 0 has not been found by then: 0 stays WHOLE, once found
    NailsWantTheKingdom x = Check.told("tn0;tk1;c10;l0;");
    found(x, new int[] {0, 1, 1, 6}, 0, 1);
    found(x, new int[] {0, 1, 2, 6}, 25, 36);
    found(x, new int[] {0, 1, 3, 6}, 25, 36);
    found(x, new int[] {0, 1, 6, 6}, 25, 36);
    // 1 is found and falls again each second DAY: LOST behind 4, however it was
    found(x, new int[] {1, 1, 4, 6}, 1, 1);
    x.loses(1);
    found(x, new int[] {1, 1, 1, 6}, 5, 6);
    found(x, new int[] {1, 1, 3, 6}, 5, 6);
    found(x, new int[] {1, 1, 2, 6}, 1, 1);
    // of two KITES one behind the other: 2 is LOST by 1, as LOST as that was ahead of DAYS 2 and 4
    NailsWantTheKingdom y = Check.told("tn0;ts0;tk1;c10;c21;l0;");
    found(y, new int[] {1, 2, 2, 4}, 3, 4);
    found(y, new int[] {1, 2, 4, 4}, 15, 16);
    found(y, new int[] {1, 2, 6, 4}, 63, 64);
  }

  /** "(0 by 1 of none)." */
  private static void meanOfNone() {
    NailsWantTheKingdom x = new NailsWantTheKingdom();
    check.due("mean(0) of none", x.mean(0), 0);
    check.due("mean(1) of none", x.mean(1), 1);
    for (int k = 1; k <= 9; k++) {
      Check.tell(x, "tn0;");
      check.due("mean(0) of " + k + " without CAUSES", x.mean(0), 0);
      check.due("mean(1) of " + k + " without CAUSES", x.mean(1), 1);
    }
  }

  /** From 1 by 9 to 36 by 9. */
  private static void meanFromLeastToGreatest() {
    NailsWantTheKingdom x = Check.told(NINE);
    int[] above = {1, 2, 1, 4, 5, 2, 7, 8, 1, 10, 11, 4, 13, 14, 5, 16, 17, 2, 19, 20, 7, 22, 23, 8, 25, 26, 3, 28, 29, 10, 31, 32, 11, 34, 35, 4};
    int[] below = {9, 9, 3};
    int sum = 0;
    for (int i = 1; i < 9; i++) {
      for (int j = 0; j < i; j++) {
        x.causes(i, j);
        sum++;
        check.due("mean(0) of " + sum + " by 9", x.mean(0), above[sum - 1]);
        check.due("mean(1) of " + sum + " by 9", x.mean(1), sum % 9 == 0 ? 1 : below[(sum - 1) % 3]);
      }
    }
  }

  /** Of one, two, .. eight THINGS. */
  private static void meanInLeastTerms() {
    int[][] due = {{0, 1}, {1, 2}, {1, 1}, {3, 2}, {2, 1}, {5, 2}, {3, 1}, {7, 2}, {4, 1}};
    for (int k = 1; k <= 9; k++) {
      NailsWantTheKingdom x = Check.told(NINE.substring(0, 4 * k));
      for (int i = 1; i < k; i++) for (int j = 0; j < i; j++) x.causes(i, j);
      check.due("mean(0), all CAUSES of " + k, x.mean(0), due[k - 1][0]);
      check.due("mean(1), all CAUSES of " + k, x.mean(1), due[k - 1][1]);
    }
  }

  /** "In mind." */
  private static void nothingIsChanged() {
    NailsWantTheKingdom x = Check.told("tn0;tn3;tn5;ts1;tk4;tb9;c30;c41;c43;c53;c54;d07;l0;g3;");
    java.util.List<Integer> seen = Check.all(x);
    for (int i = 0; i < 6; i++) {
      x.blame(i % 3, i, 0);
      x.boys(0, i, 6, 20, 1);
      x.boys(i, 5, i, 2, 0);
      x.two(1, 2, 30);
      x.two(2, 1, i);
      x.twins(i % 2);
      x.mean(i % 2);
      x.key();
    }
    check.holds("all is as it was", Check.all(x).equals(seen));
    for (int what = 11; what <= 16; what++) check.due("count(" + what + ")", x.count(what), 0);
  }
}
