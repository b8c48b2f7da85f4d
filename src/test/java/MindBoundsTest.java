/** The bounds of what is asked in mind (promises 11 to 20, 22 and 23): a method for each sentence of the document. */
public final class MindBoundsTest {
  private static final Check check = new Check("MindBoundsTest");
  private static final int NONE = -9;
  private static final String NINE = "tn0;tn0;tn0;tn0;tn0;tn0;tn0;tn0;tn0;";

  public static void main(String[] args) {
    ofNothing();
    ofOneThing();
    lostThenBehind0And60();
    whenFrom0To60();
    whenOfLostOnes();
    nextOfNoneAndOfAll();
    nextFrom1To10();
    stillFrom0To60();
    stillOverQuietDays();
    rootsOfNoneAndOfEight();
    nailsFromNoneToNine();
    guardBehind0And30();
    guardOfNone();
    guardTheLeast();
    weakBehind0And30();
    weakOfNone();
    tackWithin60();
    tackOfNone();
    worstBehind0And30();
    worstOfNone();
    fewestWithin60();
    fewestFromNoneToEight();
    fewestOfNone();
    savedBehind0And30();
    savedOfWholeOnes();
    hooksTomorrow();
    safeBehind60();
    nothingIsChanged();
    check.end();
  }

  /** Eight KITES one behind the other on DAYS that 10 divides, the first of a LOST THING: one falls every tenth DAY. */
  private static NailsWantTheKingdom slow(int day) {
    return Check.onDay(Check.told("tn0;tk9;tk9;tk9;tk9;tk9;tk9;tk9;tk9;", "c10;c21;c32;c43;c54;c65;c76;c87;l0;"), day);
  }

  /** The same, but the first THING is WHOLE. */
  private static NailsWantTheKingdom slowWhole(int day) {
    return Check.onDay(Check.told("tn0;tk9;tk9;tk9;tk9;tk9;tk9;tk9;tk9;", "c10;c21;c32;c43;c54;c65;c76;c87;"), day);
  }

  /** No THING: there is none, or nothing. */
  private static void ofNothing() {
    NailsWantTheKingdom x = new NailsWantTheKingdom();
    for (int n : new int[] {0, 30, 60}) check.due("lostThen(" + n + ")", x.lostThen(n), 0);
    check.due("next(0)", x.next(0), NONE);
    check.due("next(1)", x.next(1), NONE);
    check.due("next(2)", x.next(2), 0);
    check.due("nails()", x.nails(), 0);
    for (int n : new int[] {0, 30}) {
      check.due("weak(" + n + ")", x.weak(n), NONE);
      check.due("worst(" + n + ")", x.worst(n), NONE);
    }
    check.due("hooks(0)", x.hooks(0), 0);
    check.due("hooks(1)", x.hooks(1), 0);
  }

  /** The only THING, WHOLE, LOST, or GUARDED. */
  private static void ofOneThing() {
    NailsWantTheKingdom x = Check.told("tb0;");
    one(x, 0, NONE, 0, NONE, 0, 0, 1, 1);
    x.loses(0);
    one(x, 1, 0, NONE, NONE, NONE, NONE, 0, 0);
    x.guards(0);
    one(x, 1, 0, NONE, NONE, NONE, NONE, 0, 0);
    x.mends(0);
    one(x, 0, NONE, 0, NONE, NONE, NONE, NONE, 1);
  }

  private static void one(NailsWantTheKingdom x, int... due) {
    check.due("one: lostThen(60)", x.lostThen(60), due[0]);
    check.due("one: when(0)", x.when(0), due[1]);
    check.due("one: guard(0, 30)", x.guard(0, 30), due[2]);
    check.due("one: weak(30)", x.weak(30), due[3]);
    check.due("one: tack(0)", x.tack(0), due[4]);
    check.due("one: worst(0)", x.worst(0), due[5]);
    check.due("one: fewest(0)", x.fewest(0), due[6]);
    check.due("one: hooks(1)", x.hooks(1), due[7]);
    check.due("one: nails()", x.nails(), 1);
    check.due("one: roots(0, 0)", x.roots(0, 0), 0);
    check.due("one: roots(0, 1)", x.roots(0, 1), 0);
    check.due("one: next(0)", x.next(0), NONE);
    check.due("one: next(1)", x.next(1), NONE);
    check.due("one: next(2)", x.next(2), 0);
    check.due("one: hooks(0)", x.hooks(0), 0);
  }

  /** "n DAYS on (0 .. 60): what is LOST (bits)": each n. */
  private static void lostThenBehind0And60() {
    for (int day : new int[] {0, 1, 9, 10}) {
      NailsWantTheKingdom x = slow(day);
      int lost = x.count(2);
      for (int n = 0; n <= 60; n++) {
        if (n > 0 && (day + n) % 10 == 0) lost = lost << 1 | 1;
        check.due("lostThen(" + n + ") of DAY " + day, x.lostThen(n), lost);
      }
    }
    NailsWantTheKingdom all = Check.told(NINE);
    for (int i = 0; i < 9; i++) all.loses(i);
    check.due("lostThen(0), all LOST", all.lostThen(0), 511);
    check.due("lostThen(60), all LOST", all.lostThen(60), 511);
  }

  /** "WHEN: behind how many DAYS (0 .. 60) a THING is LOST first; -9": 60 it is, 61 it is not any more. */
  private static void whenFrom0To60() {
    for (int day = 0; day <= 9; day++) {
      NailsWantTheKingdom x = slow(day);
      for (int i = 1; i <= 8; i++) {
        int due = 10 * i - day;
        check.due("when(" + i + ") of DAY " + day, x.when(i), due <= 60 ? due : NONE);
      }
    }
    check.due("60", slow(0).when(6), 60);
    check.due("61", slow(9).when(7), NONE);
    check.due("62", slow(8).when(7), NONE);
  }

  /** "0": one that is LOST, GUARDED or not; one that is GUARDED and WHOLE never is. */
  private static void whenOfLostOnes() {
    NailsWantTheKingdom x = Check.told("tn0;ts0;ts0;c10;c21;l0;");
    check.due("when(0), LOST", x.when(0), 0);
    check.due("when(1)", x.when(1), 1);
    x.guards(0);
    check.due("when(0), LOST and GUARDED", x.when(0), 0);
    x.guards(1);
    check.due("when(1), GUARDED", x.when(1), NONE);
    check.due("when(2), behind it", x.when(2), NONE);
    x.loses(2);
    check.due("when(2), LOST", x.when(2), 0);
  }

  /** "NEXT: of those WHOLE the one LOST first, of several the least; -9; when." */
  private static void nextOfNoneAndOfAll() {
    NailsWantTheKingdom x = Check.told("ts0;ts0;ts0;ts0;ts0;ts0;ts0;ts0;ts0;");
    for (int i = 1; i < 9; i++) x.causes(i, 0);
    check.due("next(0), none falls", x.next(0), NONE);
    check.due("next(1), none falls", x.next(1), NONE);
    x.loses(0);
    check.due("next(0), all fall tomorrow", x.next(0), 1);
    for (int i = 1; i < 8; i++) {
      x.guards(i);
      check.due("next(0), " + i + " are GUARDED", x.next(0), i + 1);
      check.due("next(1), " + i + " are GUARDED", x.next(1), 1);
    }
    x.guards(8);
    check.due("next(0), all are GUARDED", x.next(0), NONE);
    for (int i = 1; i < 9; i++) {
      x.guards(i);
      x.loses(i);
    }
    check.due("next(0), all are LOST", x.next(0), NONE);
    check.due("next(1), all are LOST", x.next(1), NONE);
  }

  /** The soonest is tomorrow, the latest is behind 10 DAYS; never today. */
  private static void nextFrom1To10() {
    for (int day = 0; day <= 10; day++) {
      NailsWantTheKingdom x = slow(day);
      check.due("next(1) of DAY " + day, x.next(1), 10 - day % 10);
      check.due("next(0) of DAY " + day, x.next(0), 1 + day / 10);
    }
    NailsWantTheKingdom y = Check.told("tn0;tk8;tk9;tk7;c10;c20;c30;l0;");
    check.due("the soonest of three, next(0)", y.next(0), 3);
    check.due("the soonest of three, next(1)", y.next(1), 8);
    y.guards(3);
    check.due("of two, next(0)", y.next(0), 1);
    check.due("of two, next(1)", y.next(1), 9);
    y.guards(1);
    check.due("of one, next(0)", y.next(0), 2);
    check.due("of one, next(1)", y.next(1), 10);
  }

  /** "STILL: the first n (0 .. 60) behind which nothing more is LOST in 12 DAYS; -9": 60 it is, 61 there is none. */
  private static void stillFrom0To60() {
    for (int day = 0; day <= 9; day++) {
      for (int guarded = 1; guarded <= 8; guarded++) {
        NailsWantTheKingdom x = slow(day);
        x.guards(guarded);
        int last = guarded == 1 ? 0 : 10 * (guarded - 1) - day;
        check.due("STILL of DAY " + day + ", " + guarded + " GUARDED", x.next(2), last <= 60 ? last : NONE);
      }
      check.due("STILL of DAY " + day, slow(day).next(2), NONE);
    }
    NailsWantTheKingdom all = Check.told(NINE, "l0;l1;l2;l3;l4;l5;l6;l7;l8;");
    check.due("STILL, all are LOST", all.next(2), 0);
  }

  /** "in 12 DAYS": nine quiet DAYS are not enough. */
  private static void stillOverQuietDays() {
    for (int figure = 0; figure <= 9; figure++) {
      NailsWantTheKingdom x = Check.told("tn0;tk0;tk9;c10;c21;l0;");
      x.turn(1, 4, figure);
      int first = figure + 1;
      check.due("STILL behind a KITE of " + figure, x.next(2), first < 10 ? 10 : 20);
      x.days(first);
      check.due("STILL then", x.next(2), first < 10 ? 10 - first : 10);
    }
  }

  /** "ROOTS of a THING: all that it comes of"; "FRUITS: all that come of it so." */
  private static void rootsOfNoneAndOfEight() {
    NailsWantTheKingdom x = slow(0);
    NailsWantTheKingdom none = Check.told(NINE);
    NailsWantTheKingdom flat = Check.told(NINE);
    for (int j = 0; j < 8; j++) flat.causes(8, j);
    for (int i = 0; i < 9; i++) {
      check.due("ROOTS of a chain's " + i, x.roots(i, 0), (1 << i) - 1);
      check.due("FRUITS of a chain's " + i, x.roots(i, 1), 511 & ~((2 << i) - 1));
      check.due("ROOTS without CAUSES of " + i, none.roots(i, 0), 0);
      check.due("FRUITS without CAUSES of " + i, none.roots(i, 1), 0);
      check.due("ROOTS, all of 8, of " + i, flat.roots(i, 0), i == 8 ? 255 : 0);
      check.due("FRUITS, all of 8, of " + i, flat.roots(i, 1), i == 8 ? 0 : 256);
    }
    x.causes(4, 3);
    check.due("ROOTS, the chain cut", x.roots(8, 0), 240);
    check.due("FRUITS, the chain cut", x.roots(0, 1), 14);
  }

  /** "NAILS: THINGS (bits) without CAUSES", of whichever KIND, LOST or GUARDED, too. */
  private static void nailsFromNoneToNine() {
    NailsWantTheKingdom x = new NailsWantTheKingdom();
    for (int i = 0; i < 9; i++) {
      Check.tell(x, "t" + "nshbkw".charAt(i % 6) + i + ";");
      check.due("NAILS of " + (i + 1), x.nails(), (2 << i) - 1);
    }
    x.loses(0);
    x.guards(8);
    check.due("LOST, GUARDED", x.nails(), 511);
    for (int i = 1; i < 9; i++) {
      x.causes(i, i - 1);
      check.due("NAILS, " + i + " have CAUSES", x.nails(), 511 & ~((2 << i) - 2));
    }
    x.causes(8, 7);
    check.due("NAILS, one has none any more", x.nails(), 257);
  }

  /** "behind n DAYS (0 .. 30)": what is LOST on DAY 30 is to be guarded, what is on DAY 31 is not. */
  private static void guardBehind0And30() {
    for (int day : new int[] {0, 9}) {
      NailsWantTheKingdom x = slow(day);
      for (int i = 1; i <= 8; i++) {
        for (int n = 0; n <= 30; n++) {
          check.due("guard(" + i + ", " + n + ") of DAY " + day, x.guard(i, n), 10 * i - day <= n ? 2 : 0);
        }
      }
    }
    check.due("LOST on DAY 30", slow(0).guard(3, 30), 2);
    check.due("LOST on DAY 30, by DAY 29", slow(0).guard(3, 29), 0);
    check.due("LOST on the 31st DAY", slow(9).guard(4, 30), 0);
  }

  /** "-9": LOST now; "the fewest": none, if it stays WHOLE without. */
  private static void guardOfNone() {
    NailsWantTheKingdom x = Check.told("tn0;ts0;ts0;c10;c21;l0;");
    for (int n : new int[] {0, 1, 30}) check.due("guard(0, " + n + "), LOST", x.guard(0, n), NONE);
    x.guards(0);
    check.due("guard(0, 0), LOST and GUARDED", x.guard(0, 0), NONE);
    check.due("guard(0, 30), LOST and GUARDED", x.guard(0, 30), NONE);
    check.due("guard(1, 0)", x.guard(1, 0), 0);
    check.due("guard(1, 1)", x.guard(1, 1), 2);
    check.due("guard(2, 1)", x.guard(2, 1), 0);
    x.guards(1);
    check.due("guard(1, 30), GUARDED", x.guard(1, 30), 0);
    check.due("guard(2, 30), behind it", x.guard(2, 30), 0);
  }

  /** "(bits, of several the least)": the told one itself is the last of them; LOST and GUARDED ones are none. */
  private static void guardTheLeast() {
    NailsWantTheKingdom x = Check.told("tn0;ts0;ts0;ts0;ts0;ts0;ts0;ts0;ts0;", "c10;c21;c32;c43;c54;c65;c76;c87;l0;");
    for (int i = 1; i < 8; i++) {
      check.due("guard(8, 30), " + i + " is the least WHOLE", x.guard(8, 30), 1 << i);
      x.loses(i);
    }
    check.due("guard(8, 30), itself", x.guard(8, 30), 256);
    check.due("guard(8, 1)", x.guard(8, 1), 256);
    check.due("guard(8, 0)", x.guard(8, 0), 0);
  }

  /** A SHOE of 0 and one of that, and three slow KITES of 0: behind 30 DAYS three are kept by the first KITE, behind 29 two. */
  private static NailsWantTheKingdom twoChains(int day) {
    return Check.onDay(Check.told("tn0;ts0;ts0;tk9;tk9;tk9;", "c10;c21;c30;c43;c54;l0;"), day);
  }

  /** "leaves most WHOLE behind n DAYS (0 .. 30), more than else, of several the least; -9." */
  private static void weakBehind0And30() {
    NailsWantTheKingdom x = twoChains(0);
    check.due("weak(0)", x.weak(0), NONE);
    check.due("weak(1)", x.weak(1), 1);
    check.due("weak(20): as many, so the least", x.weak(20), 1);
    check.due("weak(29): as many, so the least", x.weak(29), 1);
    check.due("weak(30)", x.weak(30), 3);
    NailsWantTheKingdom y = slow(0);
    y.guards(2);
    for (int n = 0; n <= 30; n++) check.due("weak(" + n + "), only one falls", y.weak(n), n < 10 ? NONE : 1);
    NailsWantTheKingdom z = slow(9);
    z.guards(1);
    z.loses(3);
    for (int n = 0; n <= 30; n++) check.due("weak(" + n + "), of DAY 9", z.weak(n), n < 1 ? NONE : 4);
  }

  /** "-9": nothing is LOST, all are, or what is cannot be kept by one more. */
  private static void weakOfNone() {
    check.due("nothing is LOST", Check.told(NINE).weak(30), NONE);
    check.due("all are LOST", Check.told(NINE, "l0;l1;l2;l3;l4;l5;l6;l7;l8;").weak(30), NONE);
    NailsWantTheKingdom x = Check.told("tn0;ts0;ts0;c10;c20;l0;g1;g2;");
    check.due("all others are GUARDED", x.weak(30), NONE);
    x.guards(2);
    check.due("but one", x.weak(30), 2);
  }

  /** "makes a told one LOST soonest (within 60)": 60 it is, 61 it is not any more. */
  private static void tackWithin60() {
    for (int day = 0; day <= 9; day++) {
      NailsWantTheKingdom x = slowWhole(day);
      for (int i = 1; i <= 8; i++) {
        check.due("tack(" + i + ") of DAY " + day, x.tack(i), 10 * i - day <= 60 ? 0 : NONE);
      }
      check.due("tack(0): itself", x.tack(0), 0);
    }
  }

  /** "WHOLE and not GUARDED", "sooner than else, of several the least; -9." */
  private static void tackOfNone() {
    NailsWantTheKingdom x = slowWhole(0);
    x.guards(0);
    check.due("its NAIL is GUARDED", x.tack(1), NONE);
    x.guards(0);
    x.loses(0);
    check.due("its NAIL is LOST", x.tack(1), NONE);
    check.due("itself LOST", x.tack(0), NONE);
    NailsWantTheKingdom y = Check.told("tn0;tn0;tn0;ts0;ts0;c30;c31;c32;c43;");
    for (int nail = 0; nail < 3; nail++) {
      check.due("of several the least", y.tack(4), nail);
      check.due("a nail not of it", y.tack(nail), nail);
      y.guards(nail);
    }
    check.due("none is left", y.tack(4), NONE);
    y.guards(2);
    y.loses(2);
    y.guards(0);
    check.due("as soon as else", y.tack(4), NONE);
    y.guards(3);
    check.due("it comes of GUARDED ones alone", y.tack(4), NONE);
    NailsWantTheKingdom z = Check.told("tn0;tn0;tk9;tk8;c20;c31;");
    Check.tell(z, "ts0;c42;c43;");
    check.due("a DAY sooner", z.tack(4), 1);
    z.turn(3, 4, 9);
    check.due("as soon, so the least", z.tack(4), 0);
    z.loses(0);
    check.due("not sooner than else", z.tack(4), NONE);
    z.turn(3, 4, 8);
    check.due("a DAY sooner than else", z.tack(4), 1);
  }

  /** "makes most be LOST behind n DAYS (0 .. 30)": one loses three behind 29 and four behind 30 DAYS, the other always three. */
  private static void worstBehind0And30() {
    NailsWantTheKingdom x = Check.told("tn0;tn0;ts0;ts0;tk9;tk9;tk9;", "c20;c32;c41;c54;c65;");
    check.due("worst(0): as many, so the least", x.worst(0), 0);
    check.due("worst(1)", x.worst(1), 0);
    check.due("worst(20): as many, so the least", x.worst(20), 0);
    check.due("worst(29): as many, so the least", x.worst(29), 0);
    check.due("worst(30)", x.worst(30), 1);
    x.guards(0);
    check.due("worst(0), 0 GUARDED", x.worst(0), 1);
    x.guards(0);
    x.loses(1);
    check.due("worst(30), 1 LOST", x.worst(30), 0);
  }

  /** "-9": all of NAILS are LOST or GUARDED; others are not looked at. */
  private static void worstOfNone() {
    NailsWantTheKingdom x = Check.told(NINE);
    check.due("of nine the least", x.worst(30), 0);
    for (int i = 0; i < 8; i++) {
      if (i % 2 == 0) x.loses(i);
      else x.guards(i);
      check.due("LOST or GUARDED up to " + i, x.worst(30), i + 1);
    }
    x.loses(8);
    check.due("none is left", x.worst(30), NONE);
    check.due("none is left, behind 0 DAYS", x.worst(0), NONE);
    NailsWantTheKingdom y = Check.told("tn0;ts0;ts0;c10;c20;g0;");
    check.due("only SHOES are left", y.worst(30), NONE);
  }

  /** "is LOST within 60 DAYS; -9": 60 it is, 61 it is not any more. */
  private static void fewestWithin60() {
    for (int day = 0; day <= 9; day++) {
      NailsWantTheKingdom x = slowWhole(day);
      NailsWantTheKingdom lost = slow(day);
      for (int i = 1; i <= 8; i++) {
        boolean isWithin = 10 * i - day <= 60;
        check.due("fewest(" + i + ") of DAY " + day, x.fewest(i), isWithin ? 1 : NONE);
        check.due("fewest(" + i + ") of DAY " + day + ", 0 LOST", lost.fewest(i), isWithin ? 0 : NONE);
      }
    }
  }

  /** "The fewest of NAILS (bits, of several the least)": a WALL and a BATTLE of 1 to 8 of them. */
  private static void fewestFromNoneToEight() {
    NailsWantTheKingdom x = Check.told(NINE);
    for (int c = 1; c <= 8; c++) {
      x.causes(8, c - 1);
      x.turn(8, 3, 0);
      check.due("BATTLE of " + c, x.fewest(8), (1 << c) - 1);
      x.turn(8, 5, 0);
      check.due("WALL of " + c, x.fewest(8), (1 << c / 2 + 1) - 1);
      x.turn(8, 2, 0);
      check.due("HORSE of " + c, x.fewest(8), c == 1 ? 1 : 3);
      x.turn(8, 1, 0);
      check.due("SHOE of " + c, x.fewest(8), 1);
    }
    x.turn(8, 3, 0);
    for (int lost = 0; lost < 8; lost++) {
      x.loses(lost);
      check.due("BATTLE of 8, " + (lost + 1) + " LOST", x.fewest(8), 255 & ~((2 << lost) - 1));
    }
    for (int lost = 0; lost < 8; lost++) x.mends(lost);
    check.due("itself of none", x.fewest(3), 8);
  }

  /** "-9": none of them does it; 0: it is LOST without. */
  private static void fewestOfNone() {
    NailsWantTheKingdom x = Check.told("tn0;tn0;tb0;c20;c21;");
    check.due("both", x.fewest(2), 3);
    x.guards(1);
    check.due("one is GUARDED", x.fewest(2), NONE);
    check.due("itself GUARDED", x.fewest(1), NONE);
    x.guards(1);
    x.guards(2);
    check.due("it is GUARDED", x.fewest(2), NONE);
    x.loses(1);
    check.due("LOST", x.fewest(1), 0);
    x.guards(1);
    check.due("LOST and GUARDED", x.fewest(1), 0);
    x.turn(2, 0, 0);
    x.guards(2);
    check.due("a NAIL that has CAUSES", x.fewest(2), NONE);
  }

  /** "by how many fewer would be LOST behind n DAYS (0 .. 30)": each n. */
  private static void savedBehind0And30() {
    for (int day : new int[] {0, 9}) {
      NailsWantTheKingdom x = slow(day);
      for (int n = 0; n <= 30; n++) {
        check.due("saved(0, " + n + ") of DAY " + day, x.saved(0, n), 1 + (day + n) / 10);
      }
    }
    check.due("saved(0, 29)", slow(0).saved(0, 29), 3);
    check.due("saved(0, 30)", slow(0).saved(0, 30), 4);
  }

  /** "(0 if it is)": WHOLE, of whichever n; and it is LOST again in mind, if it comes to it. */
  private static void savedOfWholeOnes() {
    NailsWantTheKingdom x = slow(0);
    for (int i = 1; i < 9; i++) {
      check.due("saved(" + i + ", 0)", x.saved(i, 0), 0);
      check.due("saved(" + i + ", 30)", x.saved(i, 30), 0);
    }
    NailsWantTheKingdom y = Check.told("tn0;ts0;c10;l0;l1;");
    check.due("saved(1, 0)", y.saved(1, 0), 1);
    check.due("saved(1, 1): LOST again", y.saved(1, 1), 0);
    check.due("saved(0, 0)", y.saved(0, 0), 1);
    y.guards(1);
    check.due("saved(1, 30): GUARDED, so not again", y.saved(1, 30), 1);
    check.due("it is LOST all the same", y.count(2), 3);
  }

  /** "THINGS (bits) WHOLE now that would be LOST tomorrow": those LOST are none of them, nor those of the DAY behind it. */
  private static void hooksTomorrow() {
    for (int day = 0; day <= 19; day++) {
      check.due("HOOKS of DAY " + day, slow(day).hooks(0), day % 10 == 9 ? 2 << day / 10 : 0);
    }
    NailsWantTheKingdom x = Check.told("ts0;ts0;ts0;ts0;ts0;ts0;ts0;ts0;ts0;");
    for (int i = 1; i < 9; i++) x.causes(i, 0);
    check.due("nothing is LOST", x.hooks(0), 0);
    x.loses(0);
    check.due("all eight", x.hooks(0), 510);
    x.guards(8);
    check.due("one is GUARDED", x.hooks(0), 254);
    x.days(1);
    check.due("none is left", x.hooks(0), 0);
  }

  /** "SAFE: THINGS (bits) WHOLE now and so behind 60 DAYS": LOST on the sixtieth is not, on the 61st is. */
  private static void safeBehind60() {
    for (int day = 0; day <= 9; day++) {
      check.due("SAFE of DAY " + day, slow(day).hooks(1), 384);
      NailsWantTheKingdom x = slow(day);
      x.guards(6);
      check.due("SAFE of DAY " + day + ", 6 GUARDED", x.hooks(1), 448);
    }
    check.due("SAFE of DAY 10: 6 and 7 fall by DAY 70", slow(10).hooks(1), 256);
    NailsWantTheKingdom all = Check.told(NINE);
    check.due("all are SAFE", all.hooks(1), 511);
    for (int i = 0; i < 9; i++) all.loses(i);
    check.due("none is SAFE", all.hooks(1), 0);
  }

  /** "In mind": none of these changes what is. */
  private static void nothingIsChanged() {
    NailsWantTheKingdom x = slow(5);
    java.util.List<Integer> seen = Check.all(x);
    for (int n : new int[] {0, 30}) {
      x.weak(n);
      x.worst(n);
      x.lostThen(2 * n);
      for (int i = 0; i < 9; i++) {
        x.guard(i, n);
        x.saved(i, n);
      }
    }
    for (int i = 0; i < 9; i++) {
      x.when(i);
      x.tack(i);
      x.fewest(i);
      x.roots(i, i % 2);
      x.next(i % 3);
      x.hooks(i % 2);
    }
    check.holds("all is as it was", Check.all(x).equals(seen));
    for (int what = 11; what <= 16; what++) check.due("count(" + what + ")", x.count(what), 0);
  }
}
