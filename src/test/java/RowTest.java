/** Promises 29 to 36: WHAT IT WAS, the ROW, JUDGED, LOTS, THE IMAGE, count. */
public final class RowTest {
  private static final Check check = new Check("RowTest");

  public static void main(String[] args) {
    whatWas();
    row();
    judge();
    clear();
    lots();
    lotsGuarded();
    image();
    count();
    check.end();
  }

  private static void whatWas() {
    NailsWantTheKingdom x = Check.told("tn0;tn0;ts0;ts0;c20;c21;c32;l0;");
    check.due("KINDS by an empty ROW", x.whatWas(2, 0), 63);
    check.due("FIGURES by an empty ROW", x.whatWas(2, 1), 1023);
    Check.numbers(x, 1, 2, 3);
    check.due("KINDS: s, and k of FIGURE 0", x.whatWas(2, 0), 18);
    check.due("FIGURES of a SHOE", x.whatWas(2, 1), 1023);
    check.due("the ROW stays", x.count(6), 3);
    x.turn(2, 4, 3);
    check.due("KINDS, FIGURE 3", x.whatWas(2, 0), 2);
    check.due("FIGURES of a KITE", x.whatWas(2, 1), 1);
    check.due("KIND stays", x.thing(2, 0), 4);
    check.due("FIGURE stays", x.thing(2, 1), 3);
    x.clear();
    Check.numbers(x, 1, 1, 1, 1, 2, 3);
    check.due("KINDS, LOST on the fourth DAY", x.whatWas(2, 0), 16);
    check.due("FIGURES, LOST on the fourth DAY", x.whatWas(2, 1), 8);
    x.days(2);
    x.clear();
    Check.numbers(x, 1, 1, 2);
    check.due("FIGURES from DAY 2: 2 and 4 divide 4, not 3", x.whatWas(2, 1), 10);
    x.clear();
    Check.numbers(x, 1, 1);
    check.due("KINDS by which it stays", x.whatWas(2, 0), 61);
    x.clear();
    Check.numbers(x, 2);
    check.due("none", x.whatWas(2, 0), 0);
    check.due("no FIGURE", x.whatWas(2, 1), 0);
    check.refused(x, "whatWas(4, 2)", () -> x.whatWas(4, 2), -1);
    check.refused(x, "whatWas(-1, 0)", () -> x.whatWas(-1, 0), -1);
    check.refused(x, "whatWas(0, 2)", () -> x.whatWas(0, 2), -2);
    check.refused(x, "whatWas(0, -1)", () -> x.whatWas(0, -1), -2);
  }

  private static void row() {
    NailsWantTheKingdom x = new NailsWantTheKingdom();
    check.refused(x, "row(-1)", () -> x.row(-1), -4);
    check.refused(x, "row(100)", () -> x.row(100), -6);
    for (int i = 1; i <= 16; i++) check.due("row " + i, x.row(i % 2 == 0 ? 0 : 99), i);
    check.refused(x, "row 17", () -> x.row(0), -6);
    check.refused(x, "row(-1) of 16", () -> x.row(-1), -4);
    check.due("count(6)", x.count(6), 16);
  }

  private static int judged(NailsWantTheKingdom x, int... values) {
    Check.numbers(x, values);
    int answer = x.judge();
    check.due("the ROW is empty behind judge()", x.count(6), 0);
    return answer;
  }

  private static void judge() {
    NailsWantTheKingdom x = Check.told("tn0;ts0;tk4;tn0;c10;c21;l0;");
    check.due("judge() of an empty ROW", judged(x), -9);
    check.due("judge(), all right", judged(x, 0, 1, 5, 99), -9);
    check.due("judge() of some", judged(x, 0, 1), -9);
    check.due("judge(), the first wrong", judged(x, 1, 2, 5), 0);
    check.due("judge(), never is 99", judged(x, 0, 1, 5, 98), 3);
    check.due("judge(), not never", judged(x, 0, 99, 5, 98), 1);
    check.due("judge(), none there", judged(x, 0, 1, 5, 99, 99), 4);
    check.due("judge() of no THINGS", judged(new NailsWantTheKingdom(), 99), 0);
    check.due("judge() of 60 DAYS", judged(Check.told("tn0;tk9;tk9;tk9;tk9;tk9;tk9;tk9;", "c10;c21;c32;c43;c54;c65;c76;l0;"),
        0, 10, 20, 30, 40, 50, 60, 99), -9);
  }

  private static void clear() {
    NailsWantTheKingdom x = new NailsWantTheKingdom();
    check.due("clear() of none", x.clear(), 0);
    Check.numbers(x, 5, 6, 7);
    check.due("clear()", x.clear(), 3);
    check.due("clear() again", x.clear(), 0);
    check.due("a number more", x.row(1), 1);
  }

  /** Seed 0, DRAWS below 3, told by hand: the first is 1013904223 by 256, cut, modulo 3. */
  private static void lots() {
    int z = 0;
    int[] lostOfNail = new int[20];
    for (int war = 0; war < 20; war++) {
      z = z * 1664525 + 1013904223;
      lostOfNail[war] = ((z & 0x7fffffff) >> 8) % 3 == 0 ? 1 : 0;
    }
    check.due("the first DRAW", lostOfNail[0], 3960563 % 3 == 0 ? 1 : 0);
    NailsWantTheKingdom x = Check.told("tn0;");
    NailsWantTheKingdom y = Check.told("tn0;ts0;tk9;c10;c21;l2;l0;");
    int sum = 0;
    for (int n = 1; n <= 20; n++) {
      sum += lostOfNail[n - 1];
      check.due("lots(" + n + ", 0, 0)", x.lots(n, 0, 0), sum);
      check.due("lots(" + n + ", 0, 1)", x.lots(n, 0, 1), sum);
      check.due("with others, lots(" + n + ", 0, 0)", y.lots(n, 0, 0), 2 * sum + n);
      check.due("with others, lots(" + n + ", 0, 1)", y.lots(n, 0, 1), n);
    }
    check.due("LOST stays", y.count(2), 5);
    y.mends(2);
    y.causes(1, 0);
    y.causes(2, 1);
    y.causes(2, 0);
    check.due("within 15 DAYS", y.lots(20, 0, 1), sumOfTwo());
    check.refused(x, "lots(0, 0, 2)", () -> x.lots(0, 0, 2), -4);
    check.refused(x, "lots(21, 0, 2)", () -> x.lots(21, 0, 2), -6);
    check.refused(x, "lots(1, 0, 2)", () -> x.lots(1, 0, 2), -2);
    check.refused(x, "lots(1, 0, -1)", () -> x.lots(1, 0, -1), -2);
    NailsWantTheKingdom none = new NailsWantTheKingdom();
    check.refused(none, "lots(1, 0, 2) of none", () -> none.lots(1, 0, 2), -2);
    check.refused(none, "lots(1, 0, 0) of none", () -> none.lots(1, 0, 0), -3);
  }

  /** Two NAILS are drawn in a war: how often the first of them is LOST. */
  private static int sumOfTwo() {
    int z = 0;
    int sum = 0;
    for (int draw = 0; draw < 40; draw++) {
      z = z * 1664525 + 1013904223;
      if (draw % 2 == 0 && ((z & 0x7fffffff) >> 8) % 3 == 0) sum++;
    }
    return sum;
  }

  private static void lotsGuarded() {
    NailsWantTheKingdom x = Check.told("tn0;ts0;c10;");
    int free = x.lots(20, -5, 1);
    x.guards(0);
    check.due("a GUARDED one of NAILS is LOST by lot", x.lots(20, -5, 1), free);
    check.holds("some are LOST", free > 0 && free < 20);
    x.guards(1);
    check.due("a GUARDED one that comes of it is not", x.lots(20, -5, 1), 0);
    NailsWantTheKingdom y = Check.told("tn0;tk9;tk4;c10;c21;");
    check.due("15 DAYS are enough", y.lots(20, -5, 1), free);
    y.days(5);
    check.due("DAY 10 and DAY 15 come by DAY 20", y.lots(20, -5, 1), free);
    y.turn(2, 4, 9);
    check.due("DAY 10 and DAY 20 by DAY 20", y.lots(20, -5, 1), free);
    y.days(5);
    check.due("not DAY 20 and DAY 30 by DAY 25", y.lots(20, -5, 1), 0);
    NailsWantTheKingdom z = Check.told("tn0;tk9;tk9;c10;c21;d04;");
    check.due("not DAY 20 by DAY 19", z.lots(20, -5, 1), 0);
  }

  private static void image() {
    NailsWantTheKingdom x = Check.told("tn0;tk3;c10;l0;g1;d07;");
    check.refused(x, "on() without one", () -> x.on(), -3);
    check.due("image()", x.image(), 7);
    java.util.List<Integer> seen = Check.all(x);
    Check.tell(x, "m0;g1;c10;tw5;c21;l1;g2;d20;");
    x.turn(0, 5, 5);
    check.due("on()", x.on(), 7);
    check.holds("all is as then", Check.all(x).equals(seen));
    x.days(3);
    x.row(4);
    x.letter('q');
    x.letter(-1);
    check.due("on() again", x.on(), 7);
    check.due("the ROW is not of it", x.count(6), 1);
    check.due("letters are not of it", x.count(7), 1);
    check.due("REFUSALS are not of it", x.count(14), 1);
    check.due("REFUSALS are not of it", x.count(13), 1);
    x.state();
    x.clear();
    check.holds("all else is as then", Check.all(x).equals(seen));
    x.days(1);
    check.due("another image()", x.image(), 8);
    x.days(1);
    check.due("on() from that", x.on(), 8);
    NailsWantTheKingdom y = new NailsWantTheKingdom();
    check.due("image() of nothing", y.image(), 0);
    Check.tell(y, "tn0;ts0;c10;d05;");
    check.due("on() from nothing", y.on(), 0);
    check.due("no THINGS", y.count(0), 0);
    Check.tell(y, "tn0;ts0;");
    check.due("no CAUSES are left over", y.thing(1, 2), 0);
    check.due("none is LOST", y.count(2), 0);
  }

  private static void count() {
    NailsWantTheKingdom x = Check.told("tn0;tn0;ts0;tb0;tn0;c20;c30;c31;l1;l2;g0;g3;d04;");
    x.row(1);
    x.row(2);
    x.letter('t');
    int[] due = {5, 4, 6, 9, 3, 2, 2, 1};
    for (int what = 0; what < due.length; what++) check.due("count(" + what + ")", x.count(what), due[what]);
    int[] others = {-1, 8, 9, 10, 17, 18, Integer.MIN_VALUE, Integer.MAX_VALUE};
    for (int what : others) check.due("count(" + what + ")", x.count(what), -9);
    for (int what = 11; what <= 16; what++) check.due("count(" + what + ")", x.count(what), 0);
    for (int i = 0; i < 3; i++) x.loses(7);
    for (int i = 0; i < 2; i++) x.thing(0, 6);
    for (int i = 0; i < 4; i++) x.mends(0);
    for (int i = 0; i < 5; i++) x.days(0);
    for (int i = 0; i < 6; i++) x.boys(0, 0, 7, 2, 0);
    int[] refusals = {3, 2, 4, 5, 0, 6};
    for (int i = 0; i < 6; i++) check.due("count(" + (11 + i) + ")", x.count(11 + i), refusals[i]);
  }
}
