/** Promises 16 to 20, 22 and 23: GUARD, WEAK, TACK, WORST, FEWEST, SAVED, HOOKS and SAFE. */
public final class GuardsTest {
  private static final Check check = new Check("GuardsTest");

  public static void main(String[] args) {
    guard();
    weak();
    tack();
    worst();
    fewest();
    saved();
    hooks();
    check.end();
  }

  private static void guard() {
    NailsWantTheKingdom x = Check.told("tn0;ts0;ts0;tk8;c10;c21;c32;l0;");
    check.due("guard(3, 8): not LOST by then", x.guard(3, 8), 0);
    check.due("guard(3, 9): of several the least", x.guard(3, 9), 2);
    check.due("guard(2, 1)", x.guard(2, 1), 0);
    check.due("guard(2, 2)", x.guard(2, 2), 2);
    check.due("guard(2, 30)", x.guard(2, 30), 2);
    check.due("guard(0, 0): LOST", x.guard(0, 0), -9);
    check.due("guard(1, 0)", x.guard(1, 0), 0);
    x.guards(2);
    check.due("guard(2, 30), GUARDED", x.guard(2, 30), 0);
    check.due("guard(1, 30)", x.guard(1, 30), 2);
    check.refused(x, "guard(4, -1)", () -> x.guard(4, -1), -1);
    check.refused(x, "guard(-1, 0)", () -> x.guard(-1, 0), -1);
    check.refused(x, "guard(0, -1)", () -> x.guard(0, -1), -4);
    check.refused(x, "guard(0, 31)", () -> x.guard(0, 31), -6);
    NailsWantTheKingdom y = Check.told("tn0;tn0;ts0;ts0;ts0;c20;c31;c42;c43;l0;l1;");
    check.due("two ways to it: itself alone", y.guard(4, 5), 16);
    NailsWantTheKingdom z = Check.told("tn0;tn0;ts0;ts0;tb0;c20;c31;c42;c43;l0;l1;");
    check.due("all ways needed: the least of three", z.guard(4, 5), 4);
  }

  private static void weak() {
    NailsWantTheKingdom x = Check.told("tn0;tn0;ts0;ts0;ts0;ts0;c20;c31;c43;c54;l0;l1;");
    check.due("weak(0)", x.weak(0), -9);
    check.due("weak(1): of several the least", x.weak(1), 2);
    check.due("weak(2): one that keeps two", x.weak(2), 3);
    check.due("weak(30)", x.weak(30), 3);
    x.guards(3);
    check.due("weak(30), 3 GUARDED", x.weak(30), 2);
    x.guards(2);
    check.due("weak(30), nothing more is LOST", x.weak(30), -9);
    check.refused(x, "weak(-1)", () -> x.weak(-1), -4);
    check.refused(x, "weak(31)", () -> x.weak(31), -6);
    check.due("weak of nothing", new NailsWantTheKingdom().weak(5), -9);
  }

  private static void tack() {
    NailsWantTheKingdom x = Check.told("tn0;tn0;tn0;ts0;ts0;tk9;c30;c43;c42;c52;");
    check.due("tack(4): the shorter way", x.tack(4), 2);
    check.due("tack(3)", x.tack(3), 0);
    check.due("tack(1): itself", x.tack(1), 1);
    check.due("tack(5)", x.tack(5), 2);
    x.guards(2);
    check.due("tack(4), 2 GUARDED", x.tack(4), 0);
    check.due("tack(5), 2 GUARDED", x.tack(5), -9);
    check.due("tack(2), GUARDED", x.tack(2), -9);
    x.guards(2);
    x.loses(0);
    check.due("tack(4): sooner than else", x.tack(4), 2);
    check.due("tack(3): not sooner", x.tack(3), -9);
    x.days(1);
    check.due("tack(4): no sooner than tomorrow", x.tack(4), -9);
    check.refused(x, "tack(6)", () -> x.tack(6), -1);
    check.refused(x, "tack(-1)", () -> x.tack(-1), -1);
    NailsWantTheKingdom y = Check.told("tn0;tn0;ts0;th0;c20;c21;c31;");
    check.due("of several the least", y.tack(2), 0);
    NailsWantTheKingdom z = Check.told("tn0;tk9;tk9;tk9;tk9;tk9;tk9;tk9;", "c10;c21;c32;c43;c54;c65;c76;");
    check.due("within 60", z.tack(6), 0);
    check.due("not within 60", z.tack(7), -9);
  }

  private static void worst() {
    NailsWantTheKingdom x = Check.told("tn0;tn0;tn0;ts0;ts0;tk4;c31;c43;c52;");
    check.due("worst(0): of several the least", x.worst(0), 0);
    check.due("worst(1)", x.worst(1), 1);
    check.due("worst(30)", x.worst(30), 1);
    x.guards(1);
    check.due("worst(4), 1 GUARDED", x.worst(4), 0);
    check.due("worst(5), 1 GUARDED", x.worst(5), 2);
    x.loses(2);
    check.due("worst(5), 2 LOST", x.worst(5), 0);
    x.loses(0);
    check.due("none left", x.worst(5), -9);
    check.refused(x, "worst(-1)", () -> x.worst(-1), -4);
    check.refused(x, "worst(31)", () -> x.worst(31), -6);
    check.due("worst of nothing", new NailsWantTheKingdom().worst(5), -9);
  }

  private static void fewest() {
    NailsWantTheKingdom x = Check.told("tn0;tn0;tn0;tn0;tb0;ts0;c40;c41;c42;c53;c54;");
    check.due("fewest(4): all three", x.fewest(4), 7);
    check.due("fewest(5): one, not three", x.fewest(5), 8);
    check.due("fewest(2): itself", x.fewest(2), 4);
    x.guards(3);
    check.due("fewest(5), 3 GUARDED", x.fewest(5), 7);
    x.loses(1);
    check.due("fewest(5), 1 LOST", x.fewest(5), 5);
    x.guards(0);
    check.due("fewest(5), 0 GUARDED", x.fewest(5), -9);
    x.loses(4);
    check.due("fewest(5), LOST tomorrow", x.fewest(5), 0);
    check.due("fewest(4), LOST", x.fewest(4), 0);
    check.refused(x, "fewest(6)", () -> x.fewest(6), -1);
    check.refused(x, "fewest(-1)", () -> x.fewest(-1), -1);
    NailsWantTheKingdom y = Check.told("tn0;tn0;tn0;tn0;tw0;th0;c40;c41;c42;c43;c51;c53;c52;");
    check.due("three of four, the least", y.fewest(4), 7);
    check.due("two of three, the least", y.fewest(5), 6);
    NailsWantTheKingdom z = Check.told("tn0;tn0;tn0;tn0;tn0;tn0;tn0;tn0;tb0;", "c80;c81;c82;c83;c84;c85;c86;c87;");
    check.due("all eight", z.fewest(8), 255);
    check.due("the only THING", Check.told("tn0;").fewest(0), 1);
    NailsWantTheKingdom k = Check.told("tn0;tk9;tk9;tk9;tk9;tk9;tk9;tk9;", "c10;c21;c32;c43;c54;c65;c76;");
    check.due("within 60", k.fewest(6), 1);
    check.due("not within 60", k.fewest(7), -9);
  }

  private static void saved() {
    NailsWantTheKingdom x = Check.told("tn0;ts0;ts0;tk4;c10;c21;c32;l0;l1;");
    check.due("saved(0, 0)", x.saved(0, 0), 1);
    check.due("saved(1, 0)", x.saved(1, 0), 1);
    check.due("saved(1, 1): LOST again, another one later", x.saved(1, 1), 1);
    check.due("saved(1, 2)", x.saved(1, 2), 0);
    check.due("saved(0, 30)", x.saved(0, 30), 1);
    check.due("saved(2, 30): WHOLE", x.saved(2, 30), 0);
    x.guards(1);
    check.due("saved(1, 4), GUARDED", x.saved(1, 4), 2);
    check.due("saved(1, 5), GUARDED", x.saved(1, 5), 3);
    check.refused(x, "saved(4, -1)", () -> x.saved(4, -1), -1);
    check.refused(x, "saved(-1, 0)", () -> x.saved(-1, 0), -1);
    check.refused(x, "saved(0, -1)", () -> x.saved(0, -1), -4);
    check.refused(x, "saved(0, 31)", () -> x.saved(0, 31), -6);
  }

  private static void hooks() {
    NailsWantTheKingdom x = Check.told("tn0;tn0;ts0;ts0;ts0;tk9;c20;c31;c42;c50;l0;");
    check.due("HOOKS", x.hooks(0), 4);
    check.due("SAFE", x.hooks(1), 10);
    x.days(9);
    check.due("HOOKS on the ninth DAY", x.hooks(0), 32);
    check.due("SAFE on the ninth DAY", x.hooks(1), 10);
    check.refused(x, "hooks(2)", () -> x.hooks(2), -2);
    check.refused(x, "hooks(-1)", () -> x.hooks(-1), -2);
    NailsWantTheKingdom z = Check.told("tn0;tk9;tk9;tk9;tk9;tk9;tk9;tk9;", "c10;c21;c32;c43;c54;c65;c76;l0;");
    check.due("SAFE for 60 DAYS", z.hooks(1), 128);
    check.due("none is SAFE of none", new NailsWantTheKingdom().hooks(1), 0);
  }
}
