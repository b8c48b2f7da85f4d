/** Promises 4 to 10: THINGS and what is done to them, KINDS and DAYS. */
public final class ThingsTest {
  private static final Check check = new Check("ThingsTest");

  public static void main(String[] args) {
    thing();
    depths();
    causes();
    loses();
    mends();
    guards();
    turn();
    days();
    dayAbove999();
    kindsByHowManyLost();
    kites();
    allAtOnce();
    guardedStay();
    check.end();
  }

  private static void thing() {
    NailsWantTheKingdom x = Check.told("tn0;tk7;tw2;c10;c20;c21;l0;g2;");
    int[][] due = {{0, 0, 0, 1, 0, 0}, {4, 7, 1, 0, 0, 1}, {5, 2, 3, 0, 1, 2}};
    for (int thing = 0; thing < 3; thing++) {
      for (int what = 0; what < 6; what++) {
        check.due("thing(" + thing + ", " + what + ")", x.thing(thing, what), due[thing][what]);
      }
    }
    check.refused(x, "thing(3, 0)", () -> x.thing(3, 0), -1);
    check.refused(x, "thing(-1, 0)", () -> x.thing(-1, 0), -1);
    check.refused(x, "thing(MAX, 9)", () -> x.thing(Integer.MAX_VALUE, 9), -1);
    check.refused(x, "thing(0, 6)", () -> x.thing(0, 6), -2);
    check.refused(x, "thing(0, -1)", () -> x.thing(0, -1), -2);
  }

  private static void depths() {
    NailsWantTheKingdom x = Check.told("tn0;tn0;ts0;ts0;ts0;ts0;ts0;ts0;ts0;", "c10;c20;c32;c40;c43;c54;c50;c61;c65;c76;c87;");
    int[] due = {0, 1, 1, 2, 3, 4, 5, 6, 7};
    for (int thing = 0; thing < due.length; thing++) check.due("DEPTH " + thing, x.thing(thing, 5), due[thing]);
    Check.tell(x, "c10;c21;c20;c32;c31;");
    check.due("DEPTH of 8 behind a change", x.thing(8, 5), 6);
    NailsWantTheKingdom y = Check.told("tn0;ts0;ts0;ts0;ts0;ts0;ts0;ts0;ts0;", "c10;c21;c32;c43;c54;c65;c76;c87;c80;");
    check.due("DEPTH of the longest chain", y.thing(8, 5), 8);
  }

  private static void causes() {
    NailsWantTheKingdom x = Check.told("tn0;tn0;tn0;");
    check.due("causes(2, 0)", x.causes(2, 0), 1);
    check.due("causes(2, 1)", x.causes(2, 1), 3);
    check.due("causes(2, 0) again", x.causes(2, 0), 2);
    check.due("causes(1, 0)", x.causes(1, 0), 1);
    check.due("count(4)", x.count(4), 2);
    check.refused(x, "causes(3, 0)", () -> x.causes(3, 0), -1);
    check.refused(x, "causes(0, 3)", () -> x.causes(0, 3), -1);
    check.refused(x, "causes(-1, 0)", () -> x.causes(-1, 0), -1);
    check.refused(x, "causes(2, -1)", () -> x.causes(2, -1), -1);
    check.refused(x, "causes(1, 1)", () -> x.causes(1, 1), -3);
    check.refused(x, "causes(1, 2)", () -> x.causes(1, 2), -3);
  }

  private static void loses() {
    NailsWantTheKingdom x = Check.told("tn0;ts0;tn0;g2;");
    check.due("loses(1)", x.loses(1), 1);
    check.due("loses(0)", x.loses(0), 2);
    check.refused(x, "loses(3)", () -> x.loses(3), -1);
    check.refused(x, "loses(-1)", () -> x.loses(-1), -1);
    check.refused(x, "loses(0) again", () -> x.loses(0), -3);
    check.refused(x, "loses(2), GUARDED", () -> x.loses(2), -3);
    check.due("LOST", x.count(2), 3);
  }

  private static void mends() {
    NailsWantTheKingdom x = Check.told("tn0;ts0;tn0;l0;l1;g1;");
    check.due("mends(1), GUARDED", x.mends(1), 1);
    check.due("mends(0)", x.mends(0), 0);
    check.refused(x, "mends(3)", () -> x.mends(3), -1);
    check.refused(x, "mends(-1)", () -> x.mends(-1), -1);
    check.refused(x, "mends(0) again", () -> x.mends(0), -3);
    check.refused(x, "mends(2)", () -> x.mends(2), -3);
  }

  private static void guards() {
    NailsWantTheKingdom x = Check.told("tn0;tn0;l1;");
    check.due("guards(0)", x.guards(0), 1);
    check.due("guards(1), LOST", x.guards(1), 1);
    check.due("GUARDED", x.count(3), 3);
    check.due("guards(0) again", x.guards(0), 0);
    check.due("GUARDED then", x.count(3), 2);
    check.refused(x, "guards(2)", () -> x.guards(2), -1);
    check.refused(x, "guards(-1)", () -> x.guards(-1), -1);
  }

  private static void turn() {
    NailsWantTheKingdom x = Check.told("tk7;");
    check.due("turn(0, 5, 9)", x.turn(0, 5, 9), 47);
    check.due("turn(0, 0, 0)", x.turn(0, 0, 0), 59);
    check.due("turn(0, 1, 3)", x.turn(0, 1, 3), 0);
    check.due("KIND", x.thing(0, 0), 1);
    check.due("FIGURE", x.thing(0, 1), 3);
    check.refused(x, "turn(1, 6, -1)", () -> x.turn(1, 6, -1), -1);
    check.refused(x, "turn(-1, 0, 0)", () -> x.turn(-1, 0, 0), -1);
    check.refused(x, "turn(0, 6, -1)", () -> x.turn(0, 6, -1), -2);
    check.refused(x, "turn(0, -1, 10)", () -> x.turn(0, -1, 10), -2);
    check.refused(x, "turn(0, 0, -1)", () -> x.turn(0, 0, -1), -4);
    check.refused(x, "turn(0, 0, 10)", () -> x.turn(0, 0, 10), -6);
  }

  private static void days() {
    NailsWantTheKingdom x = Check.told("tn0;ts0;ts0;ts0;c10;c21;c32;l0;");
    check.due("days(1)", x.days(1), 2);
    check.due("DAY", x.count(1), 1);
    check.due("days(2)", x.days(2), 4);
    check.due("days(60)", x.days(60), 4);
    check.due("DAY 63", x.count(1), 63);
    check.refused(x, "days(0)", () -> x.days(0), -4);
    check.refused(x, "days(MIN)", () -> x.days(Integer.MIN_VALUE), -4);
    check.refused(x, "days(61)", () -> x.days(61), -6);
    check.refused(x, "days(MAX)", () -> x.days(Integer.MAX_VALUE), -6);
  }

  private static void dayAbove999() {
    NailsWantTheKingdom x = Check.told("tn0;ts0;c10;");
    for (int i = 0; i < 16; i++) x.days(60);
    check.due("DAY 960", x.count(1), 960);
    check.refused(x, "days(40)", () -> x.days(40), -6);
    x.loses(0);
    check.due("days(39)", x.days(39), 2);
    check.due("DAY 999", x.count(1), 999);
    check.refused(x, "days(1) of 999", () -> x.days(1), -6);
    check.refused(x, "days(0) of 999", () -> x.days(0), -4);
    x.mends(1);
    check.due("lostThen(60) of 999", x.lostThen(60), 3);
    check.due("when(1) of 999", x.when(1), 1);
  }

  /** Of c CAUSES so many LOST are needed, by KIND; 9 where it is never. */
  private static void kindsByHowManyLost() {
    int[][] needed = {
      {9, 9, 9, 9, 9, 9, 9, 9, 9},
      {9, 1, 1, 1, 1, 1, 1, 1, 1},
      {9, 1, 2, 2, 2, 2, 2, 2, 2},
      {9, 1, 2, 3, 4, 5, 6, 7, 8},
      {9, 1, 1, 1, 1, 1, 1, 1, 1},
      {9, 1, 2, 2, 3, 3, 4, 4, 5}};
    for (int kind = 0; kind < 6; kind++) {
      for (int c = 0; c <= 8; c++) {
        for (int lost = 0; lost <= 8; lost++) {
          NailsWantTheKingdom x = Check.told("tn0;tn0;tn0;tn0;tn0;tn0;tn0;tn0;tn0;");
          x.turn(8, kind, 0);
          for (int cause = 0; cause < c; cause++) x.causes(8, cause);
          for (int thing = 0; thing < lost; thing++) x.loses(thing);
          x.days(1);
          boolean falls = Math.min(lost, c) >= needed[kind][c];
          check.due("KIND " + kind + " of " + c + " CAUSES, " + lost + " LOST", x.thing(8, 3), falls ? 1 : 0);
        }
      }
    }
  }

  private static void kites() {
    for (int figure = 0; figure <= 9; figure++) {
      for (int from = 0; from <= 20; from++) {
        NailsWantTheKingdom x = Check.told("tn0;tk0;c10;");
        x.turn(1, 4, figure);
        if (from > 0) x.days(from);
        x.loses(0);
        int day = from + 1;
        while (day % (figure + 1) != 0) {
          check.due("KITE " + figure + " DAY " + day, x.days(1), 1);
          day++;
        }
        check.due("KITE " + figure + " DAY " + day, x.days(1), 2);
      }
    }
  }

  private static void allAtOnce() {
    NailsWantTheKingdom x = Check.told("tn0;ts0;ts0;th0;c10;c21;c31;c32;l0;");
    int[] due = {3, 7, 15, 15};
    for (int i = 0; i < due.length; i++) {
      x.days(1);
      check.due("LOST behind " + (i + 1), x.count(2), due[i]);
    }
  }

  private static void guardedStay() {
    NailsWantTheKingdom x = Check.told("tn0;ts0;ts0;c10;c21;g1;l0;");
    check.due("the GUARDED one stays", x.days(20), 1);
    x.guards(1);
    check.due("not GUARDED any more", x.days(1), 2);
    x.guards(1);
    check.due("LOST and GUARDED stays LOST, and loses others", x.days(1), 3);
  }
}
