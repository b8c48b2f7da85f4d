/** Promises 11 to 15: what is LOST when, NEXT, STILL, ROOTS and FRUITS, NAILS. */
public final class AheadTest {
  private static final Check check = new Check("AheadTest");

  public static void main(String[] args) {
    lostThen();
    when();
    next();
    still();
    roots();
    nails();
    check.end();
  }

  private static void lostThen() {
    NailsWantTheKingdom x = Check.told("tn0;ts0;tk4;tb0;c10;c21;c31;c32;l0;");
    int[] due = {1, 3, 3, 3, 3, 7, 15, 15};
    for (int n = 0; n < due.length; n++) check.due("lostThen(" + n + ")", x.lostThen(n), due[n]);
    check.due("lostThen(60)", x.lostThen(60), 15);
    check.due("DAY stays", x.count(1), 0);
    check.due("LOST stays", x.count(2), 1);
    check.refused(x, "lostThen(-1)", () -> x.lostThen(-1), -4);
    check.refused(x, "lostThen(61)", () -> x.lostThen(61), -6);
    x.days(3);
    check.due("from DAY 3: lostThen(1)", x.lostThen(1), 3);
    check.due("from DAY 3: lostThen(2)", x.lostThen(2), 7);
  }

  /** Seven KITES one behind the other, each on DAYS that 10 divides. */
  private static NailsWantTheKingdom slow() {
    return Check.told("tn0;tk9;tk9;tk9;tk9;tk9;tk9;tk9;tk9;", "c10;c21;c32;c43;c54;c65;c76;c87;l0;");
  }

  private static void when() {
    NailsWantTheKingdom x = slow();
    int[] due = {0, 10, 20, 30, 40, 50, 60, -9, -9};
    for (int thing = 0; thing < due.length; thing++) check.due("when(" + thing + ")", x.when(thing), due[thing]);
    x.days(1);
    check.due("when(7) from DAY 1", x.when(7), -9);
    x.days(9);
    check.due("when(7) from DAY 10", x.when(7), 60);
    x.guards(3);
    check.due("when(3), GUARDED", x.when(3), -9);
    check.due("when(4) behind it", x.when(4), -9);
    check.refused(x, "when(9)", () -> x.when(9), -1);
    check.refused(x, "when(-1)", () -> x.when(-1), -1);
  }

  private static void next() {
    NailsWantTheKingdom x = Check.told("tn0;tk4;tk2;tk2;c10;c20;c30;");
    check.due("next(0), nothing LOST", x.next(0), -9);
    check.due("next(1), nothing LOST", x.next(1), -9);
    x.loses(0);
    check.due("next(0), of several the least", x.next(0), 2);
    check.due("next(1)", x.next(1), 3);
    x.days(3);
    check.due("next(0) then", x.next(0), 1);
    check.due("next(1) then", x.next(1), 2);
    x.days(2);
    check.due("next(0), all LOST", x.next(0), -9);
    check.due("next(1), all LOST", x.next(1), -9);
    NailsWantTheKingdom y = Check.told("tn0;tk1;ts0;tk3;c10;c20;c30;d01;l0;");
    check.due("next(0): both on DAY 2", y.next(0), 1);
    check.due("next(1): tomorrow", y.next(1), 1);
    y.days(1);
    check.due("next(0): DAY 4", y.next(0), 3);
    check.due("next(1): DAY 4", y.next(1), 2);
    NailsWantTheKingdom z = Check.told("tn0;tk1;ts0;c10;c20;l0;");
    check.due("next(0): not the one of DAY 2", z.next(0), 2);
    NailsWantTheKingdom k = Check.told("tn0;tk5;tk2;c10;c20;d04;l0;g2;");
    check.due("next(1): DAY 6", k.next(1), 2);
    k.guards(2);
    check.due("next(0): both on DAY 6", k.next(0), 1);
    k.turn(2, 4, 4);
    check.due("next(0): DAY 5", k.next(0), 2);
    check.refused(x, "next(3)", () -> x.next(3), -2);
    check.refused(x, "next(-1)", () -> x.next(-1), -2);
  }

  private static void still() {
    check.due("STILL of nothing", new NailsWantTheKingdom().next(2), 0);
    NailsWantTheKingdom x = slow();
    check.due("STILL of slow ones", x.next(2), -9);
    x.guards(7);
    check.due("STILL, the last one on DAY 60", x.next(2), 60);
    x.guards(7);
    x.guards(8);
    check.due("STILL, the last one on DAY 70", x.next(2), -9);
    x.guards(8);
    x.days(20);
    check.due("STILL from DAY 20", x.next(2), 60);
    NailsWantTheKingdom y = Check.told("tn0;ts0;ts0;c10;c21;l0;");
    check.due("STILL behind 2", y.next(2), 2);
    y.mends(0);
    check.due("STILL at once", y.next(2), 0);
    NailsWantTheKingdom k = Check.told("tn0;tk6;tk9;tk3;c10;c21;c32;d03;l0;");
    check.due("STILL behind DAYS 7, 10, 12", k.next(2), 9);
  }

  private static void roots() {
    NailsWantTheKingdom x = Check.told("tn0;ts0;tn0;th0;tb0;tw0;c10;c31;c32;c43;c50;");
    int[] roots = {0, 1, 0, 7, 15, 1};
    int[] fruits = {58, 24, 24, 16, 0, 0};
    for (int thing = 0; thing < 6; thing++) {
      check.due("roots(" + thing + ", 0)", x.roots(thing, 0), roots[thing]);
      check.due("roots(" + thing + ", 1)", x.roots(thing, 1), fruits[thing]);
    }
    check.refused(x, "roots(6, 2)", () -> x.roots(6, 2), -1);
    check.refused(x, "roots(-1, 0)", () -> x.roots(-1, 0), -1);
    check.refused(x, "roots(0, 2)", () -> x.roots(0, 2), -2);
    check.refused(x, "roots(0, -1)", () -> x.roots(0, -1), -2);
    NailsWantTheKingdom y = slow();
    check.due("all ROOTS", y.roots(8, 0), 255);
    check.due("all FRUITS", y.roots(0, 1), 510);
  }

  private static void nails() {
    check.due("NAILS of nothing", new NailsWantTheKingdom().nails(), 0);
    NailsWantTheKingdom x = Check.told("tw0;tn0;tn0;tn0;c10;g2;l3;");
    check.due("NAILS: without CAUSES, of whichever KIND", x.nails(), 13);
    x.causes(1, 0);
    check.due("NAILS then", x.nails(), 15);
  }
}
