import java.util.List;

/** "(In thought DAY may pass 999.)": of each call that asks in mind, on DAY 999 and shortly before; DAY itself stays. */
public final class PastDay999Test {
  private static final Check check = new Check("PastDay999Test");
  private static final int NONE = -9;
  /** Of eight KITES one behind the other on DAYS that 7 divides: 1001, 1008, .. seen from DAY 999. */
  private static final int[] SEVENS = {0, 2, 9, 16, 23, 30, 37, 44, 51};

  public static void main(String[] args) {
    lostThen();
    lostThenFromBefore();
    whenAndNext();
    guardAndWeak();
    tack();
    worst();
    fewest();
    blame();
    saved();
    hooks();
    two();
    boys();
    whatWas();
    judge();
    lots();
    dayStays();
    check.end();
  }

  private static NailsWantTheKingdom sevens(int day) {
    NailsWantTheKingdom x = Check.told("tn0;tk6;tk6;tk6;tk6;tk6;tk6;tk6;tk6;", "c10;c21;c32;c43;c54;c65;c76;c87;");
    Check.onDay(x, day);
    x.loses(0);
    return x;
  }

  private static NailsWantTheKingdom last(String... texts) {
    return Check.onDay(Check.told(texts), 999);
  }

  private static int lostBehind(int n) {
    int bits = 0;
    for (int i = 0; i < SEVENS.length; i++) if (SEVENS[i] <= n) bits |= 1 << i;
    return bits;
  }

  private static void lostThen() {
    NailsWantTheKingdom x = sevens(999);
    for (int n = 0; n <= 60; n++) check.due("lostThen(" + n + ")", x.lostThen(n), lostBehind(n));
    for (int figure = 0; figure <= 9; figure++) {
      NailsWantTheKingdom y = last("tn0;tk0;c10;");
      y.turn(1, 4, figure);
      y.loses(0);
      int first = figure + 1 - 999 % (figure + 1);
      for (int n = 0; n <= 12; n++) check.due("KITE " + figure + ", lostThen(" + n + ")", y.lostThen(n), n < first ? 1 : 3);
    }
  }

  /** From each of the last DAYS as far as 60 DAYS. */
  private static void lostThenFromBefore() {
    for (int day = 939; day <= 999; day += 4) {
      NailsWantTheKingdom x = sevens(day);
      int lost = 1;
      for (int n = 1; n <= 60; n++) {
        if ((day + n) % 7 == 0) lost = Math.min(511, lost << 1 | 1);
        check.due("lostThen(" + n + ") of DAY " + day, x.lostThen(n), lost);
      }
      check.due("DAY", x.count(1), day);
    }
  }

  private static void whenAndNext() {
    NailsWantTheKingdom x = sevens(999);
    for (int i = 0; i < SEVENS.length; i++) check.due("when(" + i + ")", x.when(i), SEVENS[i]);
    check.due("next(0)", x.next(0), 1);
    check.due("next(1)", x.next(1), 2);
    check.due("next(2)", x.next(2), 51);
    NailsWantTheKingdom y = last("tn0;tk6;tk9;c10;c20;l0;");
    y.mends(1);
    y.mends(2);
    check.due("next(0): DAY 1000 ahead of DAY 1001", y.next(0), 2);
    check.due("next(1)", y.next(1), 1);
    NailsWantTheKingdom z = last("tn0;tk9;tk9;tk9;tk9;tk9;tk9;tk9;tk9;", "c10;c21;c32;c43;c54;c65;c76;c87;");
    z.loses(0);
    for (int i = 1; i <= 8; i++) check.due("tens: when(" + i + ")", z.when(i), i <= 6 ? 10 * i - 9 : NONE);
    check.due("tens: next(2)", z.next(2), NONE);
    z.guards(7);
    check.due("tens: next(2), 7 GUARDED", z.next(2), 51);
  }

  private static void guardAndWeak() {
    NailsWantTheKingdom x = sevens(999);
    for (int n = 0; n <= 30; n++) {
      for (int i = 1; i <= 8; i++) check.due("guard(" + i + ", " + n + ")", x.guard(i, n), SEVENS[i] <= n ? 2 : 0);
      check.due("weak(" + n + ")", x.weak(n), n < 2 ? NONE : 1);
    }
  }

  private static void tack() {
    NailsWantTheKingdom x = last("tn0;tn0;tk6;tk9;ts0;c20;c31;c42;c43;");
    check.due("tack(4): by DAY 1000", x.tack(4), 1);
    x.guards(1);
    check.due("tack(4): by DAY 1001", x.tack(4), 0);
    x.guards(3);
    x.guards(1);
    check.due("tack(4): 3 GUARDED", x.tack(4), 0);
    check.due("tack(3): GUARDED", x.tack(3), NONE);
    check.due("tack(2)", x.tack(2), 0);
  }

  private static void worst() {
    NailsWantTheKingdom x = last("tn0;tn0;tk6;tk6;tk9;c20;c30;c41;");
    check.due("worst(0)", x.worst(0), 0);
    check.due("worst(1): by DAY 1000", x.worst(1), 1);
    check.due("worst(2): by DAY 1001", x.worst(2), 0);
    check.due("worst(30)", x.worst(30), 0);
  }

  private static void fewest() {
    NailsWantTheKingdom x = last("tn0;tn0;tk6;tk9;tb0;c20;c31;c42;c43;");
    check.due("fewest(4)", x.fewest(4), 3);
    check.due("fewest(3)", x.fewest(3), 2);
    NailsWantTheKingdom y = last("tn0;tk9;tk9;tk9;tk9;tk9;tk9;tk9;", "c10;c21;c32;c43;c54;c65;c76;");
    check.due("by DAY 1050", y.fewest(6), 1);
    check.due("by DAY 1060, the 61st", y.fewest(7), NONE);
  }

  private static void blame() {
    NailsWantTheKingdom x = last("tn0;tk8;tk9;tk9;c10;c20;c32;");
    check.due("on DAY 1008", x.blame(0, 1, 0), 1);
    check.due("on DAY 1000", x.blame(0, 2, 0), 1);
    check.due("on DAY 1010, the eleventh", x.blame(0, 3, 0), 0);
    NailsWantTheKingdom y = last("tn0;tn0;tk9;tk9;c20;c32;");
    check.due("on DAY 1010 behind the other one, above", y.blame(1, 3, 0), 1);
    check.due("on DAY 1010 behind the other one, below", y.blame(1, 3, 1), 2);
  }

  private static void saved() {
    NailsWantTheKingdom x = sevens(999);
    for (int n = 0; n <= 30; n++) check.due("saved(0, " + n + ")", x.saved(0, n), Integer.bitCount(lostBehind(n)));
  }

  private static void hooks() {
    NailsWantTheKingdom x = last("tn0;tk9;tk6;tk7;tk8;tk4;ts0;c10;c20;c30;c40;", "c50;c60;");
    x.loses(0);
    check.due("tomorrow is DAY 1000", x.hooks(0), 2 | 8 | 32 | 64);
    check.due("none is SAFE", x.hooks(1), 0);
    NailsWantTheKingdom y = last("tn0;tk9;tk9;tk9;tk9;tk9;tk9;tk9;tk9;", "c10;c21;c32;c43;c54;c65;c76;c87;");
    y.loses(0);
    check.due("SAFE to DAY 1059", y.hooks(1), 384);
  }

  private static void two() {
    NailsWantTheKingdom x = last("tn0;tn0;tk6;tk6;tk9;tk9;c20;c30;c41;c51;");
    check.due("two(0, 1, 1): DAY 1000", x.two(0, 1, 1), 0);
    check.due("two(0, 1, 2): DAY 1001", x.two(0, 1, 2), 10);
    check.due("two(1, 0, 0)", x.two(1, 0, 0), 0);
    check.due("two(1, 0, 1): DAY 1000", x.two(1, 0, 1), 10);
  }

  private static void boys() {
    NailsWantTheKingdom x = last("tn0;tk6;tk9;c10;c20;");
    x.loses(0);
    check.due("boys(0, 2, 1, 3, 0): DAY 1000", x.boys(0, 2, 1, 3, 0), 2);
    check.due("boys(0, 2, 1, 3, 1): DAY 1000", x.boys(0, 2, 1, 3, 1), 3);
    check.due("boys(0, 1, 1, 3, 0): DAY 1000", x.boys(0, 1, 1, 3, 0), 0);
    check.due("boys(0, 1, 6, 3, 0): DAY 1001", x.boys(0, 1, 6, 3, 0), 4);
    check.due("boys(0, 1, 6, 3, 1): DAY 1001", x.boys(0, 1, 6, 3, 1), 9);
  }

  private static void whatWas() {
    NailsWantTheKingdom x = last("tn0;tk6;c10;");
    x.loses(0);
    Check.numbers(x, 1, 1, 2);
    check.due("KINDS by DAY 1001", x.whatWas(1, 0), 16);
    check.due("FIGURES: 7 divides DAY 1001", x.whatWas(1, 1), 64);
    x.clear();
    Check.numbers(x, 1, 2);
    check.due("KINDS by DAY 1000", x.whatWas(1, 0), 2 | 4 | 8 | 32);
    check.due("FIGURES: 1, 2, 4, 5, 8 and 10 divide DAY 1000", x.whatWas(1, 1), 667);
    x.clear();
    Check.numbers(x, 1, 1, 1, 1, 1, 1, 1, 1, 1, 2, 2, 2, 2, 2, 2, 2);
    check.due("FIGURES: 9 divides DAY 1008", x.whatWas(1, 1), 256);
  }

  private static void judge() {
    NailsWantTheKingdom x = sevens(999);
    for (int v : SEVENS) x.row(v);
    check.due("judge()", x.judge(), NONE);
    for (int v : SEVENS) x.row(v == 51 ? 99 : v);
    check.due("judge(), the last is not never", x.judge(), 8);
  }

  /** The first DRAWS below 3 of seed 1 are 0, 0, 0, 0, 2 or 1: four wars of five lose it. */
  private static void lots() {
    NailsWantTheKingdom x = last("tn0;tk6;tk6;c10;c21;");
    check.due("lots(5, 1, 1): DAY 1008", x.lots(5, 1, 1), 4);
    check.due("lots(5, 1, 0): DAY 1008", x.lots(5, 1, 0), 12);
    Check.tell(x, "tk6;c32;");
    check.due("lots(5, 1, 1): not DAY 1015, the sixteenth", x.lots(5, 1, 1), 0);
    x.turn(3, 4, 8);
    check.due("lots(5, 1, 1): not DAY 1017", x.lots(5, 1, 1), 0);
    x.turn(3, 4, 9);
    check.due("lots(5, 1, 1): DAY 1010", x.lots(5, 1, 1), 4);
  }

  private static void dayStays() {
    NailsWantTheKingdom x = sevens(999);
    List<Integer> seen = Check.all(x);
    Check.numbers(x, 1, 1, 2);
    x.lostThen(60);
    x.when(8);
    for (int what = 0; what <= 2; what++) x.next(what);
    x.guard(8, 30);
    x.weak(30);
    x.tack(8);
    x.worst(30);
    x.fewest(8);
    x.blame(0, 8, 0);
    x.saved(0, 30);
    x.hooks(0);
    x.hooks(1);
    x.boys(0, 8, 6, 2, 0);
    x.whatWas(1, 0);
    x.whatWas(1, 1);
    x.lots(20, 0, 0);
    x.judge();
    check.holds("all is as it was", Check.all(x).equals(seen));
    check.due("DAY", x.count(1), 999);
    check.due("days(1)", x.days(1), -6);
  }
}
