/** Promises 21 and 24 to 28: BLAME, KEY, TWINS, TWO, BOYS, MEAN. */
public final class OddsTest {
  private static final Check check = new Check("OddsTest");

  public static void main(String[] args) {
    blame();
    blameByDay();
    blameOfFive();
    key();
    twins();
    two();
    boys();
    boysGuarded();
    mean();
    check.end();
  }

  private static void blamed(NailsWantTheKingdom x, int nail, int thing, long above, long below) {
    check.due("blame(" + nail + ", " + thing + ", 0)", x.blame(nail, thing, 0), above);
    check.due("blame(" + nail + ", " + thing + ", 1)", x.blame(nail, thing, 1), below);
  }

  private static void blame() {
    NailsWantTheKingdom x = Check.told("tn0;tn0;tn0;ts0;tb0;th0;c31;c40;c41;c42;c50;c51;c52;");
    blamed(x, 0, 0, 1, 1);
    blamed(x, 1, 0, 0, 1);
    blamed(x, 1, 3, 1, 1);
    blamed(x, 0, 4, 1, 3);
    blamed(x, 2, 5, 1, 3);
    x.loses(0);
    x.loses(4);
    x.guards(4);
    blamed(x, 0, 4, 1, 3);
    blamed(x, 0, 3, 0, 1);
    x.causes(5, 2);
    blamed(x, 0, 5, 1, 2);
    blamed(x, 2, 5, 0, 1);
    check.refusedLong(x, "blame(6, 0, 2)", () -> x.blame(6, 0, 2), -1);
    check.refusedLong(x, "blame(-1, 0, 0)", () -> x.blame(-1, 0, 0), -1);
    check.refusedLong(x, "blame(0, 6, 0)", () -> x.blame(0, 6, 0), -1);
    check.refusedLong(x, "blame(3, 0, 2)", () -> x.blame(3, 0, 2), -3);
    check.refusedLong(x, "blame(0, 0, 2)", () -> x.blame(0, 0, 2), -2);
    check.refusedLong(x, "blame(0, 0, -1)", () -> x.blame(0, 0, -1), -2);
    check.due("DAY stays", x.count(1), 0);
  }

  /** 0 loses 4 by two KITES only behind 20 DAYS, 1 at once: so 1 is blamed behind 0, too. */
  private static void blameByDay() {
    NailsWantTheKingdom x = Check.told("tn0;tn0;tk9;tk9;ts0;c20;c32;c43;c41;");
    blamed(x, 0, 4, 0, 1);
    blamed(x, 1, 4, 1, 1);
    NailsWantTheKingdom y = Check.told("tn0;tn0;tk9;tk9;ts0;c20;c32;c43;d01;");
    blamed(y, 0, 4, 0, 1);
    blamed(y, 1, 4, 1, 2);
    NailsWantTheKingdom z = Check.told("tn0;tn0;tk9;ts0;c20;c32;");
    blamed(z, 0, 3, 0, 1);
    blamed(z, 1, 3, 1, 2);
    z.days(1);
    blamed(z, 0, 3, 1, 1);
    blamed(z, 1, 3, 0, 1);
    // behind 0 the KITES come on DAYS 7, 14, or 14, 21, or 21, 28: within the same 10 DAYS only at last
    NailsWantTheKingdom k = Check.told("tn0;tn0;tn0;tk6;tk6;c30;c43;");
    blamed(k, 0, 4, 1, 3);
    blamed(k, 1, 4, 1, 3);
    for (int i = 0; i < 16; i++) k.days(60);
    k.days(39);
    // from DAY 999: 1001, 1008; 1015, 1022; 1022, 1029
    blamed(k, 0, 4, 2, 3);
    blamed(k, 1, 4, 1, 6);
  }

  private static void blameOfFive() {
    NailsWantTheKingdom x = Check.told("tn0;tn0;tn0;tn0;tn0;tn0;tb0;tw0;th0;", "c60;c64;c70;c71;c72;c83;c84;c80;c81;c82;");
    blamed(x, 4, 6, 1, 2);
    blamed(x, 1, 6, 0, 1);
    blamed(x, 2, 7, 1, 3);
    blamed(x, 3, 8, 1, 5);
    blamed(x, 4, 5, 0, 1);
    check.refusedLong(x, "blame of the sixth", () -> x.blame(5, 5, 0), -3);
    x.causes(1, 0);
    blamed(x, 5, 5, 1, 1);
    blamed(x, 0, 7, 1, 2);
    blamed(x, 0, 8, 1, 4);
    NailsWantTheKingdom y = Check.told("tn0;tn0;tn0;tn0;tn0;th0;ts0;c50;c51;c52;c63;c65;");
    blamed(y, 3, 6, 1, 2);
    blamed(y, 0, 6, 1, 6);
  }

  private static void key() {
    check.due("key of nothing", new NailsWantTheKingdom().key(), -9);
    check.due("key without FRUITS", Check.told("tn0;tn0;").key(), 0);
    NailsWantTheKingdom x = Check.told("tn0;tn0;ts0;ts0;ts0;c21;c32;c40;");
    check.due("key: CAUSES of CAUSES, too", x.key(), 1);
    x.causes(3, 0);
    check.due("of several the least", x.key(), 0);
  }

  private static void twins() {
    NailsWantTheKingdom x = Check.told("tn0;ts0;ts0;tn5;ts0;");
    check.due("twins(0)", x.twins(0), 4);
    check.due("twins(1)", x.twins(1), 3);
    x.causes(3, 0);
    check.due("twins(0) then", x.twins(0), 3);
    check.due("twins(1) then", x.twins(1), 12);
    x.causes(2, 0);
    check.due("the second is the last", x.twins(1), 14);
    x.causes(4, 0);
    check.due("of the same CAUSES", x.twins(1), 24);
    x.turn(4, 3, 0);
    check.due("none", x.twins(1), -9);
    check.due("how many", x.twins(0), 0);
    check.refused(x, "twins(2)", () -> x.twins(2), -2);
    check.refused(x, "twins(-1)", () -> x.twins(-1), -2);
    check.due("nine alike", Check.told("tn0;tn1;tn2;tn3;tn4;tn5;tn6;tn7;tn8;").twins(0), 36);
  }

  private static void two() {
    NailsWantTheKingdom x = Check.told("tn0;tn0;ts0;ts0;tb0;c20;c32;c41;");
    check.due("two(0, 1, 0): not worth it", x.two(0, 1, 0), 0);
    check.due("two(0, 1, 1): as good, so the first pair", x.two(0, 1, 1), 0);
    check.due("two(0, 1, 2): worth it", x.two(0, 1, 2), 10);
    check.due("two(1, 0, 30)", x.two(1, 0, 30), 0);
    check.refused(x, "two(5, 0, -1)", () -> x.two(5, 0, -1), -1);
    check.refused(x, "two(0, -1, 31)", () -> x.two(0, -1, 31), -1);
    check.refused(x, "two(1, 1, -1)", () -> x.two(1, 1, -1), -1);
    check.refused(x, "two(0, 2, -1)", () -> x.two(0, 2, -1), -4);
    check.refused(x, "two(2, 0, 31)", () -> x.two(2, 0, 31), -6);
    check.refused(x, "two(0, 2, 0)", () -> x.two(0, 2, 0), -3);
    check.refused(x, "two(2, 0, 0)", () -> x.two(2, 0, 0), -3);
    x.guards(0);
    check.refused(x, "two, the first GUARDED", () -> x.two(0, 1, 0), -3);
    check.refused(x, "two, the second GUARDED", () -> x.two(1, 0, 0), -3);
    x.guards(0);
    x.loses(1);
    check.refused(x, "two, the second LOST", () -> x.two(0, 1, 0), -3);
    check.refused(x, "two, the first LOST", () -> x.two(1, 0, 0), -3);
  }

  private static void found(NailsWantTheKingdom x, int[] call, long above, long below) {
    String text = "boys(" + call[0] + ", " + call[1] + ", " + call[2] + ", " + call[3];
    check.due(text + ", 0)", x.boys(call[0], call[1], call[2], call[3], 0), above);
    check.due(text + ", 1)", x.boys(call[0], call[1], call[2], call[3], 1), below);
  }

  private static void boys() {
    NailsWantTheKingdom x = Check.told("tn0;ts0;ts0;c10;c21;l0;");
    found(x, new int[] {0, 0, 0, 2}, 1, 1);
    found(x, new int[] {0, 1, 0, 2}, 0, 1);
    found(x, new int[] {0, 1, 1, 2}, 1, 2);
    found(x, new int[] {0, 1, 6, 3}, 2, 3);
    found(x, new int[] {0, 0, 4, 3}, 16, 81);
    found(x, new int[] {0, 0, 6, 20}, 47045881, 64000000);
    found(x, new int[] {1, 1, 6, 2}, 1, 1);
    found(x, new int[] {1, 2, 2, 4}, 3, 4);
    found(x, new int[] {1, 2, 3, 4}, 15, 16);
    found(x, new int[] {2, 1, 3, 4}, 1, 1);
    check.due("LOST stays", x.count(2), 1);
    check.refusedLong(x, "boys(3, 0, -1, 2, 0)", () -> x.boys(3, 0, -1, 2, 0), -1);
    check.refusedLong(x, "boys(0, -1, 7, 2, 0)", () -> x.boys(0, -1, 7, 2, 0), -1);
    check.refusedLong(x, "boys(0, 0, -1, 21, 2)", () -> x.boys(0, 0, -1, 21, 2), -4);
    check.refusedLong(x, "boys(0, 0, 7, 1, 2)", () -> x.boys(0, 0, 7, 1, 2), -4);
    check.refusedLong(x, "boys(0, 0, 7, 2, 2)", () -> x.boys(0, 0, 7, 2, 2), -6);
    check.refusedLong(x, "boys(0, 0, 0, 21, 2)", () -> x.boys(0, 0, 0, 21, 2), -6);
    check.refusedLong(x, "boys(0, 0, 0, 2, 2)", () -> x.boys(0, 0, 0, 2, 2), -2);
    check.refusedLong(x, "boys(0, 0, 0, 2, -1)", () -> x.boys(0, 0, 0, 2, -1), -2);
  }

  private static void boysGuarded() {
    NailsWantTheKingdom x = Check.told("tn0;ts0;tk2;c10;c21;l0;l1;g1;");
    found(x, new int[] {1, 1, 1, 5}, 4, 5);
    found(x, new int[] {1, 1, 6, 2}, 1, 64);
    found(x, new int[] {1, 2, 2, 2}, 0, 1);
    found(x, new int[] {1, 2, 3, 2}, 1, 8);
    x.days(2);
    x.mends(1);
    x.guards(1);
    found(x, new int[] {0, 2, 1, 2}, 0, 1);
    x.loses(1);
    found(x, new int[] {0, 2, 1, 2}, 1, 1);
    found(x, new int[] {1, 2, 1, 2}, 1, 2);
  }

  private static void mean() {
    NailsWantTheKingdom none = new NailsWantTheKingdom();
    check.due("mean(0) of none", none.mean(0), 0);
    check.due("mean(1) of none", none.mean(1), 1);
    NailsWantTheKingdom x = Check.told("tn0;tn0;tn0;ts0;");
    check.due("mean(0) without CAUSES", x.mean(0), 0);
    check.due("mean(1) without CAUSES", x.mean(1), 1);
    x.causes(3, 0);
    x.causes(3, 1);
    check.due("mean(0), 2 of 4", x.mean(0), 1);
    check.due("mean(1), 2 of 4", x.mean(1), 2);
    x.causes(2, 0);
    check.due("mean(0), 3 of 4", x.mean(0), 3);
    check.due("mean(1), 3 of 4", x.mean(1), 4);
    check.refusedLong(x, "mean(2)", () -> x.mean(2), -2);
    check.refusedLong(x, "mean(-1)", () -> x.mean(-1), -2);
  }
}
