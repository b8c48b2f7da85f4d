/** Promises 1 to 3: a new object, letters, a STATE and its FAULTs. */
public final class TellingTest {
  private static final Check check = new Check("TellingTest");

  public static void main(String[] args) {
    newObject();
    letters();
    noMoreThan96Letters();
    statements();
    statesAddUp();
    faultsOfForm();
    faultsOfSense();
    noFaults();
    daysInText();
    faultChangesNothing();
    lettersAreNoMore();
    check.end();
  }

  private static void newObject() {
    NailsWantTheKingdom x = new NailsWantTheKingdom();
    for (int what = 0; what <= 7; what++) check.due("new: count(" + what + ")", x.count(what), 0);
    for (int what = 11; what <= 16; what++) check.due("new: count(" + what + ")", x.count(what), 0);
    check.due("new: on()", x.on(), -3);
    check.due("new: nails()", x.nails(), 0);
  }

  private static void letters() {
    NailsWantTheKingdom x = new NailsWantTheKingdom();
    check.due("letter(0)", x.letter(0), 1);
    check.due("letter(255)", x.letter(255), 2);
    check.refused(x, "letter(-1)", () -> x.letter(-1), -4);
    check.refused(x, "letter(MIN)", () -> x.letter(Integer.MIN_VALUE), -4);
    check.refused(x, "letter(256)", () -> x.letter(256), -6);
    check.refused(x, "letter(MAX)", () -> x.letter(Integer.MAX_VALUE), -6);
    check.due("count(7)", x.count(7), 2);
    check.due("state() of bad letters", x.state(), -1000);
    check.due("count(7) behind it", x.count(7), 0);
  }

  private static void noMoreThan96Letters() {
    NailsWantTheKingdom x = Check.told("tn0;");
    for (int i = 1; i <= 32; i++) {
      x.letter('g');
      x.letter('0');
      check.due("letter " + 3 * i, x.letter(';'), 3 * i);
    }
    check.refused(x, "letter 97", () -> x.letter(';'), -6);
    check.refused(x, "letter(-1) of 96", () -> x.letter(-1), -4);
    check.due("state of 96 letters", x.state(), 32);
    check.due("guarded 32 times", x.count(3), 0);
    check.due("96 letters with a bad end", Check.tell(x, "g0;".repeat(31) + "ttt"), -1094);
    check.due("96 letters, the last one bad", Check.tell(x, "g0;".repeat(31) + "g0g"), -1095);
    check.due("96 letters, something lacks", Check.tell(x, "g0;".repeat(31) + "tn0"), -1096);
  }

  private static void statements() {
    NailsWantTheKingdom x = new NailsWantTheKingdom();
    check.due("all kinds", Check.tell(x, "tn0;ts1;th2;tb3;tk4;tw9;"), 6);
    for (int kind = 0; kind < 6; kind++) {
      check.due("KIND " + kind, x.thing(kind, 0), kind);
      check.due("FIGURE " + kind, x.thing(kind, 1), kind == 5 ? 9 : kind);
      check.due("CAUSES " + kind, x.thing(kind, 2), 0);
      check.due("LOST " + kind, x.thing(kind, 3), 0);
      check.due("GUARDED " + kind, x.thing(kind, 4), 0);
    }
    check.due("c, l, m, g", Check.tell(x, "c10;c20;c21;l0;l2;m2;g3;"), 7);
    check.due("CAUSES of 1", x.thing(1, 2), 1);
    check.due("CAUSES of 2", x.thing(2, 2), 3);
    check.due("LOST", x.count(2), 1);
    check.due("GUARDED", x.count(3), 8);
    check.due("told again", Check.tell(x, "c20;g3;"), 2);
    check.due("CAUSES of 2 then", x.thing(2, 2), 2);
    check.due("GUARDED then", x.count(3), 0);
    check.due("letters are no more", x.count(7), 0);
  }

  private static void statesAddUp() {
    NailsWantTheKingdom x = Check.told("tn1;tn2;tn3;tn4;tn5;tn6;tn7;tn8;");
    check.due("8 THINGS", x.count(0), 8);
    check.due("the ninth", Check.tell(x, "tw9;"), 1);
    check.due("a tenth", Check.tell(x, "tn0;"), -2000);
    check.due("a tenth behind others", Check.tell(x, "g0;l1;tn0;"), -2006);
    check.due("9 THINGS", x.count(0), 9);
    check.due("no more", x.thing(9, 0), -1);
  }

  private static void form(String text, int place) {
    check.due("state of '" + text + "'", Check.tell(new NailsWantTheKingdom(), text), -1000 - place);
  }

  private static void faultsOfForm() {
    form("", 0);
    form("x", 0);
    form(";", 0);
    form("0", 0);
    form("T", 0);
    form("t", 1);
    form("tx0;", 1);
    form("t0", 1);
    form("tn", 2);
    form("tn;", 2);
    form("tnn;", 2);
    form("tn0", 3);
    form("tn00", 3);
    form("tn0;;", 4);
    form("tn0; ", 4);
    form("tn0;t", 5);
    form("c", 1);
    form("c1", 2);
    form("cn", 1);
    form("c1;", 2);
    form("c10", 3);
    form("c100", 3);
    form("l;", 1);
    form("l0", 2);
    form("l00", 2);
    form("m", 1);
    form("mx", 1);
    form("g0g", 2);
    form("d1;", 2);
    form("d", 1);
    form("d011", 3);
    form("d0/;", 2);
    form("d0:;", 2);
    form("tn0;tN0;", 5);
    form("t" + (char) 0 + "0;", 1);
    form("t" + (char) 238 + "0;", 1);
    form("l0;l1;x", 6);
    form("d99;tn0;c00;" + "tn0", 15);
  }

  private static void sense(String text, int place) {
    check.due("state of '" + text + "'", Check.tell(new NailsWantTheKingdom(), text), -2000 - place);
  }

  private static void faultsOfSense() {
    sense("l0;", 0);
    sense("m0;", 0);
    sense("g0;", 0);
    sense("c00;", 0);
    sense("d00;", 0);
    sense("d61;", 0);
    sense("d99;", 0);
    sense("tn0;l1;", 4);
    sense("l0;tn0;", 0);
    sense("tn0;m1;", 4);
    sense("tn0;g9;", 4);
    sense("tn0;c00;", 4);
    sense("tn0;tn0;c01;", 8);
    sense("tn0;tn0;c11;", 8);
    sense("tn0;c10;", 4);
    sense("tn0;tn0;c02;", 8);
    sense("tn0;tn0;c20;", 8);
    sense("tn0;g0;l0;", 7);
    sense("tn0;l0;g0;l0;", 10);
    sense("tn0;tn0;tn0;tn0;tn0;tn0;tn0;tn0;tn0;l9;", 36);
    sense("tn0;tn0;tn0;tn0;tn0;tn0;tn0;tn0;tn0;tn0;l9;", 36);
  }

  private static void noFaults() {
    NailsWantTheKingdom x = new NailsWantTheKingdom();
    check.due("LOST twice, WHOLE twice", Check.tell(x, "tn0;l0;l0;"), 3);
    check.due("LOST", x.count(2), 1);
    check.due("WHOLE twice", Check.tell(x, "m0;m0;"), 2);
    check.due("WHOLE", x.count(2), 0);
    check.due("guarded, not guarded, LOST", Check.tell(x, "g0;g0;l0;"), 3);
    check.due("LOST then", x.count(2), 1);
    check.due("a LOST one GUARDED, WHOLE", Check.tell(x, "g0;m0;"), 2);
    check.due("GUARDED then", x.count(3), 1);
  }

  private static void daysInText() {
    NailsWantTheKingdom x = new NailsWantTheKingdom();
    check.due("days between", Check.tell(x, "tn0;ts0;ts0;c10;c21;l0;d01;"), 7);
    check.due("LOST behind 1", x.count(2), 3);
    check.due("DAY", x.count(1), 1);
    check.due("d01, told after it a cause", Check.tell(x, "m1;g1;d01;g1;d60;"), 5);
    check.due("DAY 62", x.count(1), 62);
    check.due("all LOST", x.count(2), 7);
    for (int i = 0; i < 15; i++) x.days(60);
    check.due("DAY 962", x.count(1), 962);
    check.due("above 999", Check.tell(x, "d38;"), -2000);
    check.due("above 999 by two", Check.tell(x, "d30;d08;"), -2004);
    check.due("DAY stays", x.count(1), 962);
    check.due("to 999", Check.tell(x, "d37;"), 1);
    check.due("DAY 999", x.count(1), 999);
    check.due("at 999", Check.tell(x, "d01;"), -2000);
  }

  private static void faultChangesNothing() {
    NailsWantTheKingdom x = Check.told("tn3;ts4;c10;");
    java.util.List<Integer> seen = Check.all(x);
    java.util.List<Integer> refusals = Check.refusals(x);
    check.due("fault at the end", Check.tell(x, "l0;d05;g1;c10;tk9;c21;l1;"), -2022);
    check.holds("nothing came", Check.all(x).equals(seen));
    check.due("fault of form", Check.tell(x, "l0;d05;g1;c10;tk9;c21;q"), -1022);
    check.holds("nothing came again", Check.all(x).equals(seen));
    check.holds("no FAULT is counted", Check.refusals(x).equals(refusals));
    check.due("and all right", Check.tell(x, "l0;d05;tk9;"), 3);
  }

  /** A shorter text does not go on with what a longer one had at these places. */
  private static void lettersAreNoMore() {
    NailsWantTheKingdom x = Check.told("tn0;tn0;tn0;");
    check.due("the last ; lacks", Check.tell(x, "g0;g1;tn0"), -1009);
    check.due("the last ; lacks, where one was", Check.tell(x, "tn0;tn0"), -1007);
    check.due("all but the first letter lacks", Check.tell(x, "t"), -1001);
    check.due("no letters", x.state(), -1000);
    check.due("3 THINGS", x.count(0), 3);
  }
}
