/** The bounds of THINGS and of DAYS (promises 4 to 10) and of count 0 to 5: a method for each sentence of the document. */
public final class ThingsBoundsTest {
  private static final Check check = new Check("ThingsBoundsTest");
  private static final String NINE = "tn0;tn0;tn0;tn0;tn0;tn0;tn0;tn0;tn0;";

  public static void main(String[] args) {
    wholeAndNotGuardedAtFirst();
    thingsAsTheyCome();
    depthWithoutCausesAndOfNine();
    depthIsTheMost();
    causesOfAllLesserOnes();
    lostFromNoneToNine();
    guardedFromNoneToNine();
    kindsAndFiguresFromLeastToGreatest();
    daysFrom1To60();
    dayFrom0To999();
    dayAbove999();
    atDay999AllElseGoesOn();
    whatHasNoCausesIsNeverLost();
    causesOfAnyNumbersCount();
    aDayByOneLostOrNone();
    kiteOnItsDays();
    kiteByWhatDayIsThen();
    aheadOfThisDay();
    guardedOnesAreNotLost();
    countOfNoneAndOfNine();
    check.end();
  }

  private static void thing(NailsWantTheKingdom x, int thing, int... due) {
    for (int what = 0; what < 6; what++) check.due("thing(" + thing + ", " + what + ")", x.thing(thing, what), due[what]);
  }

  /** "WHOLE (at first) or LOST, GUARDED or not (not at first)", and without CAUSES: the first THING and the ninth. */
  private static void wholeAndNotGuardedAtFirst() {
    NailsWantTheKingdom x = Check.told("tb0;");
    thing(x, 0, 3, 0, 0, 0, 0, 0);
    x.loses(0);
    x.guards(0);
    x.days(60);
    Check.tell(x, "tw9;tn1;tn2;tn3;tn4;tn5;tn6;tk8;");
    thing(x, 0, 3, 0, 0, 1, 1, 0);
    thing(x, 1, 5, 9, 0, 0, 0, 0);
    thing(x, 8, 4, 8, 0, 0, 0, 0);
    NailsWantTheKingdom y = Check.told("tn0;");
    y.image();
    Check.tell(y, "ts1;th2;c10;c20;c21;l1;l2;g1;g2;");
    y.on();
    Check.tell(y, "tk3;tw4;");
    thing(y, 1, 4, 3, 0, 0, 0, 0);
    thing(y, 2, 5, 4, 0, 0, 0, 0);
  }

  /** "THINGS 0 .. as they come (9 at most)." */
  private static void thingsAsTheyCome() {
    NailsWantTheKingdom x = new NailsWantTheKingdom();
    String kinds = "nshbkwnsh";
    for (int i = 0; i < 9; i++) {
      check.due("no THING " + i + " so far", x.thing(i, 1), -1);
      check.due("a THING more", Check.tell(x, "t" + kinds.charAt(i) + (9 - i) + ";"), 1);
      check.due("THINGS", x.count(0), i + 1);
      for (int j = 0; j <= i; j++) {
        check.due("KIND of " + j, x.thing(j, 0), j % 6);
        check.due("FIGURE of " + j, x.thing(j, 1), 9 - j);
      }
    }
    check.due("no tenth", Check.tell(x, "tn0;"), -2000);
    check.due("no THING 9", x.thing(9, 0), -1);
  }

  /** "DEPTH: ... (0 without)": 0, 1, .. 8 of a chain of nine. */
  private static void depthWithoutCausesAndOfNine() {
    NailsWantTheKingdom x = Check.told(NINE);
    for (int i = 0; i < 9; i++) check.due("DEPTH of " + i + " without CAUSES", x.thing(i, 5), 0);
    for (int i = 1; i < 9; i++) x.causes(i, i - 1);
    for (int i = 0; i < 9; i++) check.due("DEPTH of " + i + " of the chain", x.thing(i, 5), i);
    x.causes(4, 3);
    for (int i = 0; i < 9; i++) check.due("DEPTH of " + i + " of two chains", x.thing(i, 5), i < 4 ? i : i - 4);
  }

  /** "the most CAUSES one behind the other down from a THING": not the fewest, not how many there are. */
  private static void depthIsTheMost() {
    NailsWantTheKingdom x = Check.told(NINE);
    for (int i = 1; i < 9; i++) for (int j = 0; j < i; j++) x.causes(i, j);
    for (int i = 0; i < 9; i++) check.due("DEPTH of " + i + " of all CAUSES", x.thing(i, 5), i);
    NailsWantTheKingdom y = Check.told(NINE);
    for (int j = 0; j < 8; j++) y.causes(8, j);
    check.due("DEPTH of 8 CAUSES without CAUSES", y.thing(8, 5), 1);
    y.causes(1, 0);
    check.due("DEPTH, one of them has one", y.thing(8, 5), 2);
    y.causes(7, 1);
    check.due("DEPTH by three", y.thing(8, 5), 3);
  }

  /** "CAUSES (bits: THINGS of a lesser number)": none, each alone, all eight. */
  private static void causesOfAllLesserOnes() {
    NailsWantTheKingdom x = Check.told(NINE);
    int bits = 0;
    for (int j = 0; j < 8; j++) {
      bits |= 1 << j;
      check.due("causes(8, " + j + ")", x.causes(8, j), bits);
      check.due("thing(8, 2)", x.thing(8, 2), bits);
      check.due("count(4)", x.count(4), j + 1);
    }
    for (int j = 0; j < 8; j++) {
      bits ^= 1 << j;
      check.due("not any more, causes(8, " + j + ")", x.causes(8, j), bits);
      check.due("count(4)", x.count(4), 7 - j);
    }
    for (int i = 1; i < 9; i++) check.due("causes(" + i + ", " + (i - 1) + ")", x.causes(i, i - 1), 1 << i - 1);
    check.due("causes(1, 0) again", x.causes(1, 0), 0);
  }

  /** "LOST: how many are"; "WHOLE: how many are LOST": from none to nine and back. */
  private static void lostFromNoneToNine() {
    NailsWantTheKingdom x = Check.told(NINE);
    for (int i = 8; i >= 0; i--) check.due("loses(" + i + ")", x.loses(i), 9 - i);
    check.due("all are LOST", x.count(2), 511);
    check.due("days(1), all LOST", x.days(1), 9);
    for (int i = 0; i < 9; i++) {
      check.due("mends(" + i + ")", x.mends(i), 8 - i);
      check.due("thing(" + i + ", 3)", x.thing(i, 3), 0);
    }
    check.due("none is LOST", x.count(2), 0);
  }

  /** "GUARDED, or not any more: 1, 0": from none to nine and back. */
  private static void guardedFromNoneToNine() {
    NailsWantTheKingdom x = Check.told(NINE);
    for (int i = 0; i < 9; i++) {
      check.due("guards(" + i + ")", x.guards(i), 1);
      check.due("thing(" + i + ", 4)", x.thing(i, 4), 1);
      check.due("count(3)", x.count(3), (2 << i) - 1);
    }
    for (int i = 0; i < 9; i++) check.due("guards(" + i + ") again", x.guards(i), 0);
    check.due("none is GUARDED", x.count(3), 0);
  }

  /** "10 times the KIND and the FIGURE it had": 0 to 59, of the first THING and of the last. */
  private static void kindsAndFiguresFromLeastToGreatest() {
    for (int thing : new int[] {0, 8}) {
      NailsWantTheKingdom x = Check.told(NINE);
      int had = 0;
      for (int next = 59; next >= 0; next--) {
        check.due("turn(" + thing + ", " + next / 10 + ", " + next % 10 + ")", x.turn(thing, next / 10, next % 10), had);
        check.due("KIND", x.thing(thing, 0), next / 10);
        check.due("FIGURE", x.thing(thing, 1), next % 10);
        had = next;
      }
    }
    NailsWantTheKingdom y = Check.told("tn0;tk9;ts0;c10;l0;g1;");
    check.due("turn(1, 1, 0)", y.turn(1, 1, 0), 49);
    thing(y, 1, 1, 0, 1, 0, 1, 1);
    check.due("turn of a LOST one", y.turn(0, 5, 9), 0);
    thing(y, 0, 5, 9, 0, 1, 0, 0);
  }

  /** "n DAYS (1 .. 60) go by": as many as told, each of them. */
  private static void daysFrom1To60() {
    for (int n = 1; n <= 60; n++) {
      NailsWantTheKingdom x = Check.told("tn0;tk9;tk9;tk9;tk9;tk9;tk9;tk9;tk9;", "c10;c21;c32;c43;c54;c65;c76;c87;l0;");
      check.due("days(" + n + ")", x.days(n), 1 + n / 10);
      check.due("DAY", x.count(1), n);
      check.due("LOST", x.count(2), (2 << n / 10) - 1);
    }
  }

  /** "DAY (0 .. 999; 0 at first)", by single DAYS and by 60 of them. */
  private static void dayFrom0To999() {
    NailsWantTheKingdom x = new NailsWantTheKingdom();
    check.due("DAY at first", x.count(1), 0);
    for (int day = 1; day <= 120; day++) {
      x.days(1);
      check.due("DAY", x.count(1), day);
    }
    for (int day = 180; day <= 960; day += 60) {
      x.days(60);
      check.due("DAY", x.count(1), day);
    }
    x.days(38);
    check.due("DAY 998", x.count(1), 998);
    x.days(1);
    check.due("DAY 999", x.count(1), 999);
    check.due("image() of DAY 999", x.image(), 999);
    check.due("on() to DAY 999", x.on(), 999);
  }

  /** "-6 (..; DAY above 999)": the greatest n that does not pass it, and the one just above. */
  private static void dayAbove999() {
    for (int day : new int[] {939, 940, 969, 989, 997, 998}) {
      NailsWantTheKingdom x = Check.onDay(Check.told("tn0;ts0;c10;"), day);
      int left = Math.min(60, 999 - day);
      check.due("DAY", x.count(1), day);
      x.loses(0);
      check.due("one too many of DAY " + day, x.days(left + 1), -6);
      check.due("DAY stays", x.count(1), day);
      check.due("LOST stays", x.count(2), 1);
      check.due("days(" + left + ") of DAY " + day, x.days(left), 2);
      check.due("DAY", x.count(1), day + left);
    }
    NailsWantTheKingdom x = Check.onDay(new NailsWantTheKingdom(), 999);
    for (int n = 1; n <= 60; n++) check.due("days(" + n + ") of DAY 999", x.days(n), -6);
    check.due("how many were refused", x.count(16), 60);
    check.due("DAY 999", x.count(1), 999);
  }

  /** At the last DAY only days() has no room. */
  private static void atDay999AllElseGoesOn() {
    NailsWantTheKingdom x = Check.onDay(Check.told("tn0;tn0;ts0;"), 999);
    check.due("loses", x.loses(0), 1);
    check.due("mends", x.mends(0), 0);
    check.due("guards", x.guards(1), 1);
    check.due("causes", x.causes(2, 0), 1);
    check.due("turn", x.turn(2, 3, 3), 10);
    check.due("a STATE", Check.tell(x, "tw1;g0;"), 2);
    check.due("DAY", x.count(1), 999);
  }

  /** "What has no CAUSES is never LOST by these": "all (c)" of none, and half of none and 1, is not so. */
  private static void whatHasNoCausesIsNeverLost() {
    NailsWantTheKingdom x = Check.told("tn0;tn0;ts0;th0;tb0;tk0;tw0;", "l0;l1;d60;");
    check.due("LOST", x.count(2), 3);
    for (int thing = 2; thing <= 6; thing++) {
      x.causes(thing, 0);
      x.causes(thing, 0);
    }
    check.due("LOST, CAUSES are not any more", x.days(60), 2);
    check.due("HOOKS", x.hooks(0), 0);
  }

  /** So many of c CAUSES that none of the KINDS needs more: whichever they are, the least needed fall it, one fewer do not. */
  private static void causesOfAnyNumbersCount() {
    int[][] needed = {{}, {1, 1, 1, 1, 1, 1, 1, 1}, {1, 2, 2, 2, 2, 2, 2, 2}, {1, 2, 3, 4, 5, 6, 7, 8}, {}, {1, 2, 2, 3, 3, 4, 4, 5}};
    for (int kind : new int[] {1, 2, 3, 5}) {
      for (int c = 1; c <= 8; c++) {
        int need = needed[kind][c - 1];
        check.due("KIND " + kind + ", " + need + " LOST of " + c, lostOfTheLast(kind, c, need), 1);
        check.due("KIND " + kind + ", one fewer LOST of " + c, lostOfTheLast(kind, c, need - 1), 0);
      }
    }
  }

  /** CAUSES are the c of the greatest numbers below 8; LOST are the greatest of them, and all that are not of them. */
  private static int lostOfTheLast(int kind, int c, int lost) {
    NailsWantTheKingdom x = Check.told(NINE);
    x.turn(8, kind, 9);
    for (int j = 8 - c; j < 8; j++) x.causes(8, j);
    for (int j = 0; j < 8; j++) if (j < 8 - c || j >= 8 - lost) x.loses(j);
    x.days(1);
    return x.thing(8, 3);
  }

  /** NAIL: "never by these", even if all its CAUSES are LOST; each other KIND is by one of one, on DAY 1 or on DAY 10. */
  private static void aDayByOneLostOrNone() {
    for (int kind = 0; kind < 6; kind++) {
      for (int figure : new int[] {0, 9}) {
        NailsWantTheKingdom x = Check.told("tn0;tn0;c10;");
        x.turn(1, kind, figure);
        check.due("KIND " + kind + ", none LOST", x.days(60), 0);
        NailsWantTheKingdom y = Check.told("tn0;tn0;c10;l0;");
        y.turn(1, kind, figure);
        boolean falls = kind != 0 && (kind != 4 || figure == 0);
        check.due("KIND " + kind + ", the one LOST, DAY 1", y.days(1), falls ? 2 : 1);
        check.due("KIND " + kind + ", the one LOST, DAY 10", y.days(9), kind == 0 ? 1 : 2);
        check.due("KIND " + kind + ", the one LOST, DAY 70", y.days(60), kind == 0 ? 1 : 2);
      }
    }
  }

  /** KITE: "1, on DAYS FIGURE and 1 divide; on others never": each FIGURE, each DAY of 1 .. 60 and of 940 .. 999. */
  private static void kiteOnItsDays() {
    for (int figure = 0; figure <= 9; figure++) {
      for (int day = 1; day <= 60; day++) {
        check.due("KITE " + figure + " on DAY " + day, lostOn(figure, day), day % (figure + 1) == 0 ? 1 : 0);
        int late = day + 939;
        check.due("KITE " + figure + " on DAY " + late, lostOn(figure, late), late % (figure + 1) == 0 ? 1 : 0);
      }
    }
  }

  private static int lostOn(int figure, int day) {
    NailsWantTheKingdom x = Check.onDay(Check.told("tn0;tn0;tk0;c20;c21;"), day - 1);
    x.turn(2, 4, figure);
    x.loses(1);
    x.days(1);
    check.due("DAY", x.count(1), day);
    return x.thing(2, 3);
  }

  /** "(by what DAY is then)": by the DAY that begins, not the one that was. */
  private static void kiteByWhatDayIsThen() {
    NailsWantTheKingdom x = Check.told("tn0;tk9;c10;l0;d09;");
    check.due("DAY 9", x.count(2), 1);
    check.due("DAY 10", x.days(1), 2);
    NailsWantTheKingdom y = Check.told("tn0;tk9;c10;d10;l0;");
    check.due("DAY 11", y.days(1), 1);
    check.due("DAY 19", y.days(8), 1);
    check.due("DAY 20", y.days(1), 2);
  }

  /** "were LOST ahead of this DAY ..; all at once": a chain goes one THING a DAY, up as down. */
  private static void aheadOfThisDay() {
    NailsWantTheKingdom x = Check.told("tn0;ts0;th0;tb0;tk0;tw0;ts0;th0;tb0;", "c10;c21;c32;c43;c54;c65;c76;c87;l0;");
    for (int n = 1; n <= 8; n++) {
      check.due("LOST behind " + n, x.days(1), n + 1);
      check.due("bits", x.count(2), (2 << n) - 1);
    }
    check.due("all are LOST", x.days(60), 9);
    NailsWantTheKingdom y = Check.told("tn0;ts0;ts0;tb0;c10;c20;c31;c32;l0;");
    check.due("two at once", y.days(1), 3);
    check.due("what needs both", y.days(1), 4);
    NailsWantTheKingdom z = Check.told("tn0;ts0;ts0;ts0;ts0;c10;c20;c30;c40;l0;");
    check.due("four at once", z.days(1), 5);
  }

  /** "each THING that is WHOLE and not GUARDED": a GUARDED one stays WHOLE for 60 DAYS, and falls when it is not any more. */
  private static void guardedOnesAreNotLost() {
    NailsWantTheKingdom x = Check.told("tn0;ts0;ts0;c10;c20;l0;g1;");
    check.due("all but the GUARDED one", x.days(60), 2);
    check.due("LOST", x.count(2), 5);
    check.due("a LOST one GUARDED", x.guards(2), 1);
    check.due("stays LOST", x.days(60), 2);
    check.due("not GUARDED any more", x.guards(1), 0);
    check.due("is LOST then", x.days(1), 3);
  }

  /** count 0 to 5 where there is nothing, and the most. */
  private static void countOfNoneAndOfNine() {
    NailsWantTheKingdom none = new NailsWantTheKingdom();
    for (int what = 0; what <= 5; what++) check.due("count(" + what + ") of nothing", none.count(what), 0);
    NailsWantTheKingdom x = Check.told(NINE);
    check.due("NAILS that are WHOLE", x.count(5), 9);
    for (int i = 0; i < 9; i++) x.guards(i);
    check.due("GUARDED ones of NAILS are WHOLE", x.count(5), 9);
    for (int i = 0; i < 9; i++) x.guards(i);
    for (int i = 0; i < 9; i++) {
      x.loses(i);
      check.due("NAILS that are WHOLE, " + (i + 1) + " LOST", x.count(5), 8 - i);
    }
    for (int i = 1; i < 9; i++) for (int j = 0; j < i; j++) x.causes(i, j);
    check.due("THINGS", x.count(0), 9);
    check.due("LOST", x.count(2), 511);
    check.due("all CAUSES", x.count(4), 36);
    check.due("the one of NAILS is LOST", x.count(5), 0);
    x.mends(8);
    check.due("one that is none of NAILS is WHOLE", x.count(5), 0);
    x.mends(0);
    check.due("the one of NAILS is WHOLE", x.count(5), 1);
  }
}
