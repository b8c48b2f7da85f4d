import java.util.List;

/** The bounds of letters, of a STATE and of its FAULTs (promises 1 to 3): a method for each sentence of the document. */
public final class TellingBoundsTest {
  private static final Check check = new Check("TellingBoundsTest");
  private static final String NINE = "tn0;tn0;tn0;tn0;tn0;tn0;tn0;tn0;tn0;";
  private static final String DIGITS = "0123456789";

  public static void main(String[] args) {
    aNewObjectHasNothing();
    aLetterIs0To255();
    aLetterIs255AtMost();
    lettersAre96AtMost();
    aStateOf96Letters();
    aStateHasAStatement();
    statementsBeginSo();
    thingIsToldSo();
    causeIsToldSo();
    lostWholeGuardedAreToldSo();
    daysAreToldSo();
    theEndIfSomethingLacks();
    theFirstLetterThatIsWrong();
    theFormBehindManyStatements();
    theFormGoesAheadOfSense();
    daysOutOfRange();
    noSuchThingSoFar();
    causeOfALesserNumber();
    lostOfAGuardedOne();
    dayAbove999();
    noRoomForMore();
    theFirstStatementThatIsNotSo();
    withAFaultNothingComes();
    withAFaultNoThingIsBegun();
    withAFaultNoLetterStays();
    aFaultIsNoRefusal();
    check.end();
  }

  private static int fresh(String text) {
    return Check.tell(new NailsWantTheKingdom(), text);
  }

  /** "No THINGS, DAY 0." */
  private static void aNewObjectHasNothing() {
    NailsWantTheKingdom x = new NailsWantTheKingdom();
    for (int what = 0; what <= 7; what++) check.due("new: count(" + what + ")", x.count(what), 0);
    check.due("new: no THING 0", x.thing(0, 0), -1);
    check.due("new: key()", x.key(), -9);
    check.due("new: clear()", x.clear(), 0);
    check.due("new: the first letter", x.letter('g'), 1);
    check.due("new: the first number", x.row(0), 1);
    check.due("new: image()", x.image(), 0);
  }

  /** "A letter (0 .. 255) comes: how many there are": each of them. */
  private static void aLetterIs0To255() {
    NailsWantTheKingdom x = new NailsWantTheKingdom();
    for (int c = 0; c <= 255; c++) {
      check.due("letter(" + c + ")", x.letter(c), c % 64 + 1);
      check.due("count(7)", x.count(7), c % 64 + 1);
      if (c % 64 == 63) x.state();
    }
  }

  /** "-6 (255": no letter is taken for the one 256 below it. */
  private static void aLetterIs255AtMost() {
    NailsWantTheKingdom x = Check.told("tn0;");
    Check.letters(x, "g0");
    check.due("256 and ;", x.letter(256 + ';'), -6);
    check.due("65536 and ;", x.letter(65536 + ';'), -6);
    check.due("the ; lacks", x.state(), -1002);
    check.due("letter(255) is none of a STATE", Check.tell(x, "g0;" + (char) 255), -1003);
    check.due("letter(0) is none of a STATE", Check.tell(x, "g0;" + (char) 0), -1003);
  }

  /** "96 at most." */
  private static void lettersAre96AtMost() {
    NailsWantTheKingdom x = Check.told(NINE);
    for (int i = 1; i <= 95; i++) check.due("letter " + i, x.letter("g8;".charAt((i - 1) % 3)), i);
    check.due("letter 96", x.letter(';'), 96);
    check.due("letter 97", x.letter('g'), -6);
    check.due("count(7)", x.count(7), 96);
    check.due("state()", x.state(), 32);
    check.due("count(7) then", x.count(7), 0);
    check.due("a letter again", x.letter('g'), 1);
  }

  /** All 96 of them come: nine THINGS and fifteen CAUSES, in the last STATEMENT, too. */
  private static void aStateOf96Letters() {
    String text = "tn0;ts1;th2;tb3;tk4;tw5;tn6;ts7;th9;" + "c10;c21;c32;c43;c54;c65;c76;c87;c20;c31;c42;c53;c64;c75;c86;";
    check.due("how many letters", text.length(), 96);
    NailsWantTheKingdom x = new NailsWantTheKingdom();
    check.due("state() of 96", Check.tell(x, text), 24);
    int[] causes = {0, 1, 3, 6, 12, 24, 48, 96, 192};
    for (int i = 0; i < 9; i++) check.due("CAUSES of " + i, x.thing(i, 2), causes[i]);
    check.due("count(4)", x.count(4), 15);
    check.due("96 once more", Check.tell(x, "g0;".repeat(31) + "l1;"), 32);
    check.due("LOST", x.count(2), 2);
    check.due("GUARDED 31 times", x.count(3), 1);
  }

  /** "At least one STATEMENT." */
  private static void aStateHasAStatement() {
    check.due("state() of no letter", fresh(""), -1000);
    NailsWantTheKingdom x = Check.told("tn0;");
    check.due("state() of no letter behind another", x.state(), -1000);
    check.due("one STATEMENT", Check.tell(x, "g0;"), 1);
    check.due("no letter again", x.state(), -1000);
  }

  /** Behind each beginning each of the 256 letters: those told go on, with each other one a FAULT of kind 1 there. */
  private static void goesOnWith(String begun, String allowed, String rest) {
    for (int c = 0; c <= 255; c++) {
      NailsWantTheKingdom x = Check.told(NINE.substring(0, 8));
      Check.letters(x, begun);
      x.letter(c);
      Check.letters(x, rest);
      int answer = x.state();
      String told = "letter " + c + " behind '" + begun + "'";
      if (allowed.indexOf((char) c) >= 0) check.holds(told + " goes on: " + answer, answer > 0 || answer <= -2000);
      else check.due(told, answer, -1000 - begun.length());
    }
  }

  /** "t", "c", "l", "m", "g", "d" and no other one. */
  private static void statementsBeginSo() {
    for (char c = 0; c <= 255; c++) {
      boolean begins = "tclmgd".indexOf(c) >= 0;
      check.due("only letter " + (int) c, fresh("" + c), begins ? -1001 : -1000);
      check.due("letter " + (int) c + " behind a STATEMENT", fresh("tn0;" + c), begins ? -1005 : -1004);
    }
  }

  /** "t" a letter of a KIND, FIGURE (a digit), ";". */
  private static void thingIsToldSo() {
    goesOnWith("t", "nshbkw", "0;");
    goesOnWith("tn", DIGITS, ";");
    goesOnWith("tw9", ";", "");
    goesOnWith("g0;t", "nshbkw", "9;");
    String kinds = "nshbkw";
    for (int kind = 0; kind < 6; kind++) {
      for (int figure = 0; figure <= 9; figure++) {
        NailsWantTheKingdom x = new NailsWantTheKingdom();
        check.due("a THING", Check.tell(x, "t" + kinds.charAt(kind) + figure + ";"), 1);
        check.due("its KIND", x.thing(0, 0), kind);
        check.due("its FIGURE", x.thing(0, 1), figure);
      }
    }
  }

  /** "c" two THINGS (a digit each), ";". */
  private static void causeIsToldSo() {
    goesOnWith("c", DIGITS, "0;");
    goesOnWith("c1", DIGITS, ";");
    goesOnWith("c10", ";", "");
  }

  /** "l", "m", "g" a THING (a digit), ";". */
  private static void lostWholeGuardedAreToldSo() {
    for (String one : List.of("l", "m", "g")) {
      goesOnWith(one, DIGITS, ";");
      goesOnWith(one + "0", ";", "");
      goesOnWith(one + "9", ";", "");
    }
  }

  /** "d" DAYS (2 digits), ";": whichever digits, the form has them. */
  private static void daysAreToldSo() {
    goesOnWith("d", DIGITS, "1;");
    goesOnWith("d0", DIGITS, ";");
    goesOnWith("d9", DIGITS, ";");
    goesOnWith("d60", ";", "");
    goesOnWith("d61", ";", "");
  }

  /** "(the end, if something lacks)": each text cut off. */
  private static void theEndIfSomethingLacks() {
    for (String one : List.of("tn0;", "tw9;", "c10;", "l0;", "m0;", "g9;", "d01;", "d99;")) {
      for (int length = 0; length < one.length(); length++) {
        check.due("'" + one.substring(0, length) + "'", fresh(one.substring(0, length)), -1000 - length);
        if (length > 0) {
          String behind = "tn0;tn0;" + one.substring(0, length);
          check.due("'" + behind + "'", fresh(behind), -1008 - length);
        }
      }
    }
  }

  /** "the place of the first letter with which no STATE can go on": of two such letters the first. */
  private static void theFirstLetterThatIsWrong() {
    check.due("all wrong", fresh("xyz"), -1000);
    check.due("two wrong of one STATEMENT", fresh("tx:;"), -1001);
    check.due("a letter too much", fresh("tn00;"), -1003);
    check.due("a letter too few", fresh("tn;tn0;"), -1002);
    check.due("the second STATEMENT", fresh("tn0;tx0;ty0;"), -1005);
    check.due("one ; too much", fresh("tn0;;"), -1004);
    check.due("one ; at first", fresh(";tn0;"), -1000);
  }

  /** At the greatest places, 95 and, at the end, 96. */
  private static void theFormBehindManyStatements() {
    String many = "g0;".repeat(31);
    NailsWantTheKingdom x = Check.told("tn0;");
    check.due("place 93", Check.tell(x, many + "x0;"), -1093);
    check.due("place 94", Check.tell(x, many + "gx;"), -1094);
    check.due("place 95", Check.tell(x, many + "g0x"), -1095);
    check.due("place 96", Check.tell(x, many + "tn0"), -1096);
    check.due("place 96, two lack", Check.tell(x, "tn0;".repeat(7) + "g0;".repeat(22) + "tn"), -1096);
    check.due("none", Check.tell(x, many + "g0;"), 32);
    check.due("only one of 32 came", x.count(3), 0);
  }

  /** "kind 1 ..; else kind 2": what is wrong by its form goes ahead, wherever it is. */
  private static void theFormGoesAheadOfSense() {
    check.due("behind it", fresh("l0;x"), -1003);
    check.due("at the end", fresh("d00;c00;tn"), -1010);
    check.due("in the same STATEMENT", fresh("l9x"), -1002);
    check.due("in the last letter of 96", Check.tell(Check.told("tn0;"), "d00;" + "g0;".repeat(30) + "g0"), -1096);
    check.due("but for it", fresh("d00;c00;tn0;"), -2000);
  }

  /** "(2 digits, 1 .. 60)", "a number out of range": each of 100. */
  private static void daysOutOfRange() {
    for (int n = 0; n <= 99; n++) {
      String days = "d" + n / 10 + n % 10 + ";";
      NailsWantTheKingdom x = new NailsWantTheKingdom();
      boolean isSo = n >= 1 && n <= 60;
      check.due(days, Check.tell(x, days), isSo ? 1 : -2000);
      check.due("DAY behind " + days, x.count(1), isSo ? n : 0);
      check.due("tn0;" + days, Check.tell(x, "tn0;" + days), isSo ? 2 : -2004);
      check.due("THINGS behind " + days, x.count(0), isSo ? 1 : 0);
    }
  }

  /** "no such THING so far": with no, one, eight and nine THINGS each digit, behind those of the text itself, too. */
  private static void noSuchThingSoFar() {
    for (int things : new int[] {0, 1, 8, 9}) {
      String told = NINE.substring(0, 4 * things);
      for (int digit = 0; digit <= 9; digit++) {
        int place = told.length();
        for (String one : List.of("l", "m", "g")) {
          check.due(told + one + digit, fresh(told + one + digit + ";"), digit < things ? things + 1 : -2000 - place);
        }
        if (digit >= things) {
          check.due(told + "c" + digit + "0", fresh(told + "c" + digit + "0;"), -2000 - place);
          check.due(told + "c0" + digit, fresh(told + "c0" + digit + ";"), -2000 - place);
          check.due(told + "c" + digit + digit, fresh(told + "c" + digit + digit + ";"), -2000 - place);
        }
      }
    }
    check.due("one that comes later", fresh("tn0;l1;tn0;"), -2004);
    check.due("a CAUSE of one that comes later", fresh("tn0;c10;tn0;"), -2004);
    check.due("a THING of before", Check.tell(Check.told("tn0;tn0;"), "l1;"), 1);
  }

  /** "a CAUSE not of a lesser number": each two of nine. */
  private static void causeOfALesserNumber() {
    for (int thing = 0; thing < 9; thing++) {
      for (int cause = 0; cause < 9; cause++) {
        NailsWantTheKingdom x = Check.told(NINE);
        String text = "c" + thing + cause + ";";
        check.due(text, Check.tell(x, text), cause < thing ? 1 : -2000);
        check.due("CAUSES behind " + text, x.thing(thing, 2), cause < thing ? 1 << cause : 0);
        check.due("behind another: " + text, Check.tell(x, "g0;" + text), cause < thing ? 2 : -2003);
        check.due("not any more behind " + text, x.thing(thing, 2), 0);
      }
    }
  }

  /** "LOST of a GUARDED one", by what the text told ahead of it. */
  private static void lostOfAGuardedOne() {
    check.due("GUARDED in the text", fresh("tn0;g0;l0;"), -2007);
    check.due("GUARDED, not any more", fresh("tn0;g0;g0;l0;"), 4);
    check.due("GUARDED three times", fresh("tn0;g0;g0;g0;l0;"), -2013);
    check.due("GUARDED afterwards", fresh("tn0;l0;g0;"), 3);
    check.due("GUARDED and LOST", fresh("tn0;l0;g0;l0;"), -2010);
    check.due("another one GUARDED", fresh("tn0;tn0;g0;l1;"), 4);
    check.due("WHOLE of a GUARDED one", fresh("tn0;l0;g0;m0;"), 4);
    NailsWantTheKingdom x = Check.told(NINE, "g8;");
    check.due("GUARDED before", Check.tell(x, "l8;"), -2000);
    check.due("GUARDED before, not any more", Check.tell(x, "g8;l8;"), 2);
    check.due("LOST twice", Check.tell(x, "l8;"), 1);
    check.due("LOST", x.count(2), 256);
  }

  /** "DAY above 999", by the DAYS of the text ahead of it, too. */
  private static void dayAbove999() {
    for (int day : new int[] {939, 940, 970, 989, 998, 999}) {
      for (int n : new int[] {1, 2, 10, 11, 29, 30, 59, 60}) {
        NailsWantTheKingdom x = Check.onDay(new NailsWantTheKingdom(), day);
        String text = "d" + n / 10 + n % 10 + ";";
        boolean isSo = day + n <= 999;
        check.due(text + " of DAY " + day, Check.tell(x, text), isSo ? 1 : -2000);
        check.due("DAY then", x.count(1), isSo ? day + n : day);
      }
    }
    NailsWantTheKingdom x = Check.onDay(new NailsWantTheKingdom(), 900);
    check.due("60 and 40", Check.tell(x, "d60;d40;"), -2004);
    check.due("DAY 900", x.count(1), 900);
    check.due("60, 39 and 1", Check.tell(x, "d60;d39;d01;"), -2008);
    check.due("60 and 39", Check.tell(x, "d60;d39;"), 2);
    check.due("DAY 999", x.count(1), 999);
    check.due("none more", Check.tell(x, "tn0;d01;"), -2004);
    NailsWantTheKingdom y = new NailsWantTheKingdom();
    check.due("16 times 60 DAYS and 39", Check.tell(y, "d60;".repeat(16) + "d39;"), 17);
    check.due("DAY 999 by one text", y.count(1), 999);
    check.due("17 times 60 DAYS", fresh("d60;".repeat(17)), -2064);
  }

  /** "no room for more": THINGS are 9 at most. */
  private static void noRoomForMore() {
    check.due("nine", fresh(NINE), 9);
    check.due("ten", fresh(NINE + "tn0;"), -2036);
    check.due("twelve", fresh(NINE + "tn0;tn0;tn0;"), -2036);
    for (int things = 0; things <= 9; things++) {
      NailsWantTheKingdom x = new NailsWantTheKingdom();
      Check.tell(x, NINE.substring(0, 4 * things));
      String text = NINE.substring(0, 4 * (9 - things));
      check.due(things + " and one too many", Check.tell(x, text + "tn0;"), -2000 - text.length());
      check.due("THINGS", x.count(0), things);
      if (things < 9) check.due(things + " and the others", Check.tell(x, text), 9 - things);
      check.due("THINGS then", x.count(0), 9);
    }
  }

  /** "the place of the first letter of the first STATEMENT that .. is not as it must be." */
  private static void theFirstStatementThatIsNotSo() {
    check.due("two of them", fresh("tn0;l1;m2;"), -2004);
    check.due("the second digit is wrong", fresh("tn0;tn0;c19;"), -2008);
    check.due("all of them", fresh("l0;m0;g0;"), -2000);
    check.due("at place 93", Check.tell(Check.told("tn0;"), "g0;".repeat(31) + "g1;"), -2093);
    check.due("at place 92", fresh("tn0;" + "g0;".repeat(28) + "d01;" + "d00;"), -2092);
  }

  /** "Without FAULT all of it comes, with one nothing." */
  private static void withAFaultNothingComes() {
    String all = "m0;l1;g2;g1;c20;c32;d07;tk9;";
    for (String fault : List.of("d00;", "d61;", "l9;", "m9;", "g9;", "c00;", "c12;", "c90;", "l1;", "x", "t", "tn", "tn0", "d1", "l1:")) {
      NailsWantTheKingdom x = Check.told("tn3;ts1;ts2;tk4;c10;c21;l0;g2;d03;");
      List<Integer> seen = Check.all(x);
      check.holds("a FAULT: " + fault, Check.tell(x, all + fault) <= -1000);
      check.holds("nothing came with " + fault, Check.all(x).equals(seen));
      check.due("lostThen(1) with " + fault, x.lostThen(1), 3);
      check.due("all came without it", Check.tell(x, all), 8);
      check.due("DAY", x.count(1), 10);
      check.due("THINGS", x.count(0), 5);
      check.due("LOST", x.count(2), 14);
      check.due("GUARDED", x.count(3), 2);
      check.due("all CAUSES", x.count(4), 4);
    }
  }

  /** The next THING has no CAUSES, is WHOLE and not GUARDED, whatever a FAULT's text told of one of its number. */
  private static void withAFaultNoThingIsBegun() {
    NailsWantTheKingdom x = Check.told("tn0;");
    check.due("a FAULT", Check.tell(x, "tk9;tk8;c10;c20;c21;l1;g2;d10;q"), -1030);
    check.due("a FAULT of sense", Check.tell(x, "tk9;tk8;c10;c20;c21;l1;g2;d10;l2;"), -2030);
    check.due("another text", Check.tell(x, "tn0;ts0;"), 2);
    int[][] due = {{0, 0, 0, 0, 0, 0}, {0, 0, 0, 0, 0, 0}, {1, 0, 0, 0, 0, 0}};
    for (int thing = 0; thing < 3; thing++) {
      for (int what = 0; what < 6; what++) {
        check.due("thing(" + thing + ", " + what + ")", x.thing(thing, what), due[thing][what]);
      }
    }
    check.due("DAY", x.count(1), 0);
  }

  /** "The letters become a STATE, and are no more (with a FAULT neither)." */
  private static void withAFaultNoLetterStays() {
    NailsWantTheKingdom x = Check.told("tn0;");
    for (String text : List.of("q", "g", "g0", "l0;l0", "l1;", "d00;", "g0;".repeat(31) + "l9;", "t".repeat(96))) {
      check.holds("a FAULT: " + text, Check.tell(x, text) <= -1000);
      check.due("count(7)", x.count(7), 0);
      check.due("state() again", x.state(), -1000);
      check.due("a letter more", x.letter('g'), 1);
      Check.letters(x, "0;");
      check.due("a STATE", x.state(), 1);
    }
  }

  /** "the FAULT (nothing is counted)." */
  private static void aFaultIsNoRefusal() {
    NailsWantTheKingdom x = Check.told("tn0;", "g0;");
    for (String text : List.of("", "x", "tn", "d00;", "l0;", "c00;", "m1;")) {
      check.holds("a FAULT: " + text, Check.tell(x, text) <= -1000);
      for (int what = 11; what <= 16; what++) check.due("count(" + what + ") behind " + text, x.count(what), 0);
    }
  }
}
