import java.math.BigInteger;
import java.util.List;

/** The bounds of WHAT IT WAS, the ROW, JUDGED, LOTS, THE IMAGE and count (promises 29 to 36): a method for each sentence. */
public final class RowBoundsTest {
  private static final Check check = new Check("RowBoundsTest");
  private static final int NONE = -9;
  private static final int MIN = Integer.MIN_VALUE;
  private static final int MAX = Integer.MAX_VALUE;
  private static final String NINE = "tn0;tn0;tn0;tn0;tn0;tn0;tn0;tn0;tn0;";
  private static final String SLOW = "tn0;tk9;tk9;tk9;tk9;tk9;tk9;tk9;tk9;";
  private static final String SLOW_CAUSES = "c10;c21;c32;c43;c54;c65;c76;c87;";

  public static void main(String[] args) {
    rowFrom0To99();
    rowOf16();
    clearFromNoneTo16();
    whatWasByAnEmptyRow();
    whatWasByOneNumber();
    whatWasBy16Numbers();
    whatWasAllOfItIsSo();
    whatWasOfLostOnes();
    theRowStays();
    judgeOfAnEmptyRow();
    judgeNoneThere();
    judgeNeverIs99();
    judgeOf60();
    judgeTheFirst();
    judgeLeavesNone();
    drawTakesOffTheSign();
    drawGoesRound();
    drawsOfThreeNails();
    drawsOfNineNails();
    lotsFrom1To20();
    lotsElseWhole();
    lotsOfNailsAlone();
    lotsBehind15Days();
    lotsTheLastThing();
    lotsChangeNothing();
    imageOfNothingAndOfAll();
    imageButTheRowAndLetters();
    imageButRefusals();
    imageAgain();
    onManyTimes();
    countOfAnother();
    countOfRowAndLetters();
    check.end();
  }

  /** "A ROW of numbers (0 .. 99)": each of them. */
  private static void rowFrom0To99() {
    NailsWantTheKingdom x = new NailsWantTheKingdom();
    for (int v = 0; v <= 99; v++) {
      check.due("row(" + v + ")", x.row(v), v % 10 + 1);
      if (v % 10 == 9) check.due("clear()", x.clear(), 10);
    }
    check.due("row(-1)", x.row(-1), -4);
    check.due("row(100)", x.row(100), -6);
    check.due("count(6)", x.count(6), 0);
  }

  /** "16 at most." */
  private static void rowOf16() {
    NailsWantTheKingdom x = new NailsWantTheKingdom();
    for (int i = 1; i <= 16; i++) {
      check.due("number " + i, x.row(0), i);
      check.due("count(6)", x.count(6), i);
    }
    check.due("number 17", x.row(0), -6);
    check.due("count(6)", x.count(6), 16);
    check.due("clear()", x.clear(), 16);
    check.due("a number again", x.row(99), 1);
  }

  /** "The ROW has none then: how many it had": 0 to 16. */
  private static void clearFromNoneTo16() {
    NailsWantTheKingdom x = new NailsWantTheKingdom();
    for (int had = 0; had <= 16; had++) {
      for (int i = 0; i < had; i++) x.row(i);
      check.due("clear() of " + had, x.clear(), had);
      check.due("count(6)", x.count(6), 0);
      check.due("clear() again", x.clear(), 0);
    }
  }

  private static void was(NailsWantTheKingdom x, int thing, int kinds, int figures) {
    check.due("whatWas(" + thing + ", 0)", x.whatWas(thing, 0), kinds);
    check.due("whatWas(" + thing + ", 1)", x.whatWas(thing, 1), figures);
  }

  /** "all of it is so" of no number: all KINDS, all FIGURES. */
  private static void whatWasByAnEmptyRow() {
    NailsWantTheKingdom x = Check.told(SLOW, SLOW_CAUSES, "l0;");
    for (int i = 0; i < 9; i++) was(x, i, 63, 1023);
    Check.numbers(x, 9);
    was(x, 0, 0, 0);
    x.clear();
    was(x, 0, 63, 1023);
  }

  /** One number tells how many are LOST now, whatever it was: all or none. */
  private static void whatWasByOneNumber() {
    for (int lost = 0; lost <= 9; lost++) {
      NailsWantTheKingdom x = Check.told(NINE);
      for (int i = 0; i < lost; i++) x.loses(i);
      for (int v : new int[] {0, 1, lost, 8, 9, 10, 99}) {
        Check.numbers(x, v);
        was(x, 8, v == lost ? 63 : 0, v == lost ? 1023 : 0);
        x.clear();
      }
    }
  }

  /** "LOST behind 0, 1, .. DAYS": the sixteenth number is of 15 DAYS. */
  private static void whatWasBy16Numbers() {
    NailsWantTheKingdom x = Check.told("tn0;tk9;tk3;c10;c21;l0;");
    Check.numbers(x, 1, 1, 1, 1, 1, 1, 1, 1, 1, 1, 2, 2, 2, 2, 2, 3);
    was(x, 2, 0, 16);
    x.turn(2, 4, 4);
    was(x, 2, 16, 16);
    x.clear();
    Check.numbers(x, 1, 1, 1, 1, 1, 1, 1, 1, 1, 1, 2, 2, 2, 2, 2, 2);
    was(x, 2, 1, 896);
    x.clear();
    Check.numbers(x, 1, 1, 1, 1, 1, 1, 1, 1, 1, 1, 2, 2, 2, 2, 2);
    was(x, 2, 17, 912);
    x.clear();
    Check.numbers(x, 1, 1, 1, 1, 1, 1, 1, 1, 1, 1, 2, 3, 3, 3, 3, 3);
    was(x, 2, 46, 1);
  }

  /** One number that is not so is enough, wherever it is. */
  private static void whatWasAllOfItIsSo() {
    for (int wrong = 0; wrong < 16; wrong++) {
      NailsWantTheKingdom x = Check.told("tn0;tk9;tk4;c10;c21;l0;");
      for (int i = 0; i < 16; i++) x.row((i < 10 ? 1 : i < 15 ? 2 : 3) + (i == wrong ? 96 : 0));
      was(x, 2, 0, 0);
      was(x, 0, 0, 0);
    }
  }

  /** One that is LOST stays so of whichever KIND; a GUARDED one stays WHOLE so. */
  private static void whatWasOfLostOnes() {
    NailsWantTheKingdom x = Check.told("tn0;ts0;c10;l0;l1;");
    Check.numbers(x, 2, 2, 2);
    was(x, 0, 63, 1023);
    was(x, 1, 63, 1023);
    x.mends(1);
    x.guards(1);
    x.clear();
    Check.numbers(x, 1, 1, 1);
    was(x, 1, 63, 1023);
    x.guards(1);
    was(x, 1, 1, 0);
    x.turn(1, 4, 9);
    was(x, 1, 1 | 16, 1020);
  }

  /** "(it stays)", and the KIND and the FIGURE stay, too. */
  private static void theRowStays() {
    NailsWantTheKingdom x = Check.told("tn0;tk3;c10;l0;");
    Check.numbers(x, 0, 4);
    for (int i = 0; i < 2; i++) {
      x.whatWas(i, 0);
      x.whatWas(i, 1);
      check.due("count(6)", x.count(6), 2);
      check.due("KIND", x.thing(1, 0), 4);
      check.due("FIGURE", x.thing(1, 1), 3);
      check.due("KIND of 0", x.thing(0, 0), 0);
    }
    check.due("DAY", x.count(1), 0);
    check.due("LOST", x.count(2), 1);
    check.due("the ROW is JUDGED right", x.judge(), NONE);
  }

  private static int judged(NailsWantTheKingdom x, int... values) {
    Check.numbers(x, values);
    return x.judge();
  }

  /** "JUDGED ..; -9": no number is not so, with and without THINGS. */
  private static void judgeOfAnEmptyRow() {
    check.due("judge() of nothing", new NailsWantTheKingdom().judge(), NONE);
    check.due("judge() of nine", Check.told(SLOW, SLOW_CAUSES, "l0;").judge(), NONE);
    check.due("judge() of nine, all LOST", Check.told(NINE, "l0;l1;l2;l3;l4;l5;l6;l7;l8;").judge(), NONE);
  }

  /** "(none there, too)": a number of which there is no THING, from the first to the sixteenth. */
  private static void judgeNoneThere() {
    for (int things = 0; things <= 9; things++) {
      for (int numbers = 0; numbers <= 16; numbers++) {
        NailsWantTheKingdom x = new NailsWantTheKingdom();
        if (things > 0) Check.tell(x, NINE.substring(0, 4 * things));
        for (int i = 0; i < numbers; i++) x.row(99);
        check.due(numbers + " numbers of " + things + " THINGS", x.judge(), numbers <= things ? NONE : things);
      }
    }
    check.due("0 where none is there", judged(Check.told("tn0;l0;"), 0, 0), 1);
  }

  /** "(99: never)": neither 98 nor 61 nor 9 is. */
  private static void judgeNeverIs99() {
    for (int v : new int[] {0, 1, 9, 60, 61, 98}) check.due("never by " + v, judged(Check.told("tn0;"), v), 0);
    check.due("never by 99", judged(Check.told("tn0;"), 99), NONE);
    check.due("now by 99", judged(Check.told("tn0;l0;"), 99), 0);
    check.due("now by 1", judged(Check.told("tn0;l0;"), 1), 0);
    check.due("now by 0", judged(Check.told("tn0;l0;"), 0), NONE);
  }

  /** "WHEN": 60 is told as it is, 61 is never. */
  private static void judgeOf60() {
    NailsWantTheKingdom x = Check.told(SLOW, SLOW_CAUSES, "l0;");
    check.due("60 and never", judged(x, 0, 10, 20, 30, 40, 50, 60, 99, 99), NONE);
    check.due("60 is not never", judged(x, 0, 10, 20, 30, 40, 50, 99, 99, 99), 6);
    check.due("70 is never", judged(x, 0, 10, 20, 30, 40, 50, 60, 70, 80), 7);
    x.days(9);
    check.due("61 is never", judged(x, 0, 1, 11, 21, 31, 41, 51, 61, 71), 7);
    check.due("51 and never", judged(x, 0, 1, 11, 21, 31, 41, 51, 99, 99), NONE);
  }

  /** "the first that is not so": each place, whatever is behind it. */
  private static void judgeTheFirst() {
    int[] due = {0, 10, 20, 30, 40, 50, 60, 99, 99};
    for (int wrong = 0; wrong < 9; wrong++) {
      NailsWantTheKingdom x = Check.told(SLOW, SLOW_CAUSES, "l0;");
      for (int i = 0; i < 9; i++) x.row(i == wrong ? due[i] == 0 ? 1 : due[i] - 1 : due[i]);
      check.due("one wrong, " + wrong, x.judge(), wrong);
      for (int i = 0; i < 9; i++) x.row(i < wrong ? due[i] : 77);
      check.due("all wrong from " + wrong, x.judge(), wrong);
      for (int i = 0; i < wrong; i++) x.row(due[i]);
      check.due("only the first " + wrong, x.judge(), NONE);
    }
  }

  /** "(whichever it answers, the ROW has none then)." */
  private static void judgeLeavesNone() {
    NailsWantTheKingdom x = Check.told("tn0;");
    for (int v : new int[] {99, 98}) {
      for (int numbers = 0; numbers <= 16; numbers += 4) {
        for (int i = 0; i < numbers; i++) x.row(v);
        x.judge();
        check.due("count(6) behind judge() of " + numbers, x.count(6), 0);
        check.due("clear()", x.clear(), 0);
        check.due("judge() again", x.judge(), NONE);
      }
    }
  }

  /** The seed that becomes z by one DRAW. */
  private static int seedOf(int z) {
    BigInteger round = BigInteger.ONE.shiftLeft(32);
    return BigInteger.valueOf(z).subtract(BigInteger.valueOf(1013904223))
        .multiply(BigInteger.valueOf(1664525).modInverse(round)).mod(round).intValue();
  }

  /** "(z without its sign's bit by 256, cut) modulo m": the z behind the DRAW at its bounds, above and below 0. */
  private static void drawTakesOffTheSign() {
    int[] zs = {0, 255, 256, 511, 512, 767, 768, 1023, 1024, MAX - 256, MAX - 255, MAX,
      MIN, MIN + 255, MIN + 256, MIN + 767, MIN + 768, -769, -768, -513, -512, -257, -256, -1};
    int[] isLost = {1, 1, 0, 0, 0, 0, 1, 1, 0, 1, 0, 0, 1, 1, 0, 0, 1, 0, 0, 0, 1, 1, 0, 0};
    NailsWantTheKingdom x = Check.told("tn0;");
    for (int i = 0; i < zs.length; i++) {
      int seed = seedOf(zs[i]);
      check.due("lots(1, " + seed + ", 0), z " + zs[i], x.lots(1, seed, 0), isLost[i]);
      check.due("lots(1, " + seed + ", 1), z " + zs[i], x.lots(1, seed, 1), isLost[i]);
    }
    check.due("the seed of z 0", seedOf(0), 634785765);
    check.due("the seed of z MIN", seedOf(MIN), -1512697883);
  }

  /** Seeds and which of 60 DRAWS below 3 are 0: the first z of 681 is the last below 2147483648, of 682 it has gone round. */
  private static final int[] SEEDS = {0, 1, -1, 681, 682, -609, -610, -1899, -1900, MAX, MIN, 12345, -12345};
  private static final List<String> DRAWS = List.of(
      "011000001111000101110010001100000000001100001001001000101110",
      "111100010110000001011001001000101001100101011101000100101001",
      "000100000010100010111010101101000110101000010010001000110110",
      "110001010111001100011000101001011001001100100000000010011010",
      "100011110010100000001010100000110001000000011001100111001101",
      "001010000100000111101101000001011000000010000011000110000000",
      "000110000111001000000110001000110010100000000110000010000001",
      "101100111100000110001100101001000000000100001010000011100010",
      "000000100000000101000001101000010111111100101001000000110000",
      "000100000010100010111010101101000110101000010010001000110110",
      "011000001111000101110010001100000000001100001001001000101110",
      "110111000001000001100001000100001001000010000100101000110000",
      "011100000110100100111010111011110100011100000000000111100101");

  private static int zeros(String draws, int from, int to, int step) {
    int sum = 0;
    for (int i = from; i < to; i += step) sum += draws.charAt(i) - '0';
    return sum;
  }

  /** "z becomes z times 1664525 and 1013904223 (an int)", from seeds of which it goes round, above and below. */
  private static void drawGoesRound() {
    NailsWantTheKingdom x = Check.told("tn0;");
    for (int i = 0; i < SEEDS.length; i++) {
      for (int n = 1; n <= 20; n += n < 4 ? 1 : 4) {
        check.due("lots(" + n + ", " + SEEDS[i] + ", 0)", x.lots(n, SEEDS[i], 0), zeros(DRAWS.get(i), 0, n, 1));
      }
      check.due("lots(20, " + SEEDS[i] + ", 1)", x.lots(20, SEEDS[i], 1), zeros(DRAWS.get(i), 0, 20, 1));
      check.due("the sign of the seed is taken off, too", x.lots(19, SEEDS[i] ^ MIN, 0), x.lots(19, SEEDS[i], 0));
    }
  }

  /** "each of NAILS, by numbers": three DRAWS a war, z goes on from war to war. */
  private static void drawsOfThreeNails() {
    NailsWantTheKingdom x = Check.told("tn0;ts0;tn0;tn0;c10;");
    x.guards(1);
    for (int i = 0; i < SEEDS.length; i++) {
      String draws = DRAWS.get(i);
      for (int n : new int[] {1, 2, 19, 20}) {
        check.due("lots(" + n + ", " + SEEDS[i] + ", 0)", x.lots(n, SEEDS[i], 0), zeros(draws, 0, 3 * n, 1));
        check.due("lots(" + n + ", " + SEEDS[i] + ", 1)", x.lots(n, SEEDS[i], 1), zeros(draws, 2, 3 * n, 3));
      }
      NailsWantTheKingdom first = Check.told("tn0;tn0;tn0;ts0;c30;");
      NailsWantTheKingdom second = Check.told("tn0;tn0;tn0;ts0;c31;");
      check.due("the first of three", first.lots(20, SEEDS[i], 1), zeros(draws, 0, 60, 3));
      check.due("the second of three", second.lots(20, SEEDS[i], 1), zeros(draws, 1, 60, 3));
    }
  }

  /** The most DRAWS: 180, told by whole numbers of any size. */
  private static void drawsOfNineNails() {
    NailsWantTheKingdom x = Check.told(NINE);
    BigInteger round = BigInteger.ONE.shiftLeft(32);
    for (int seed : SEEDS) {
      BigInteger z = BigInteger.valueOf(seed);
      int all = 0;
      int last = 0;
      for (int draw = 0; draw < 180; draw++) {
        z = z.multiply(BigInteger.valueOf(1664525)).add(BigInteger.valueOf(1013904223)).mod(round);
        if (z.clearBit(31).shiftRight(8).intValue() % 3 == 0) {
          all++;
          if (draw % 9 == 8) last++;
        }
      }
      check.due("lots(20, " + seed + ", 0) of nine", x.lots(20, seed, 0), all);
      check.due("lots(20, " + seed + ", 1) of nine", x.lots(20, seed, 1), last);
    }
  }

  /** "n wars (1 .. 20)": each n, one that is LOST in each of them. */
  private static void lotsFrom1To20() {
    NailsWantTheKingdom x = Check.told("tn0;ts0;ts0;ts0;ts0;ts0;ts0;ts0;ts0;");
    for (int i = 1; i < 9; i++) {
      x.causes(i, 0);
      x.loses(i);
    }
    for (int n = 1; n <= 20; n++) {
      check.due("lots(" + n + ", 0, 0)", x.lots(n, 0, 0), 8 * n + zeros(DRAWS.get(0), 0, n, 1));
      check.due("lots(" + n + ", 0, 1)", x.lots(n, 0, 1), n);
    }
    check.due("lots(0, 0, 0)", x.lots(0, 0, 0), -4);
    check.due("lots(21, 0, 0)", x.lots(21, 0, 0), -6);
  }

  /** "is LOST (GUARDED or not), if a DRAW below 3 is 0, else WHOLE": whatever it is now. */
  private static void lotsElseWhole() {
    for (String text : List.of("tn0;", "tn0;l0;", "tn0;g0;", "tn0;l0;g0;", "tw9;l0;")) {
      NailsWantTheKingdom x = Check.told(text);
      for (int i = 0; i < SEEDS.length; i++) {
        check.due("lots(1, " + SEEDS[i] + ", 0) of " + text, x.lots(1, SEEDS[i], 0), DRAWS.get(i).charAt(0) - '0');
        check.due("lots(20, " + SEEDS[i] + ", 1) of " + text, x.lots(20, SEEDS[i], 1), zeros(DRAWS.get(i), 0, 20, 1));
      }
    }
  }

  /** What is not of NAILS has no DRAW: LOST, it stays so; WHOLE and GUARDED, it stays so, too. */
  private static void lotsOfNailsAlone() {
    NailsWantTheKingdom x = Check.told("tn0;tn0;tn1;tn1;c21;c31;l2;l3;");
    String draws = DRAWS.get(0);
    check.due("a NAIL with CAUSES", x.lots(20, 0, 1), 20);
    check.due("all", x.lots(20, 0, 0), 40 + zeros(draws, 0, 40, 1));
    x.mends(3);
    check.due("WHOLE", x.lots(20, 0, 1), 0);
    x.turn(3, 1, 0);
    check.due("LOST by 1", x.lots(20, 0, 1), zeros(draws, 1, 40, 2));
    x.guards(3);
    check.due("GUARDED", x.lots(20, 0, 1), 0);
  }

  /** "then 15 DAYS": what would be LOST on the fifteenth is, on the sixteenth not any more; from DAY as it is. */
  private static void lotsBehind15Days() {
    int zeros = zeros(DRAWS.get(0), 0, 20, 1);
    NailsWantTheKingdom x = Check.told("tn0;tk9;tk4;c10;c21;");
    check.due("on the fifteenth DAY", x.lots(20, 0, 1), zeros);
    x.turn(2, 4, 7);
    check.due("on the sixteenth DAY", x.lots(20, 0, 1), 0);
    x.days(1);
    check.due("of DAY 1 on the fifteenth DAY", x.lots(20, 0, 1), zeros);
    NailsWantTheKingdom y = Check.told("tn0;tk9;tk4;ts0;c10;c21;c32;");
    check.due("a DAY behind it", y.lots(20, 0, 1), 0);
    check.due("all but the last", y.lots(20, 0, 0), 3 * zeros);
    for (int day = 1; day <= 20; day++) {
      y.days(1);
      int rest = day % 10;
      check.due("of DAY " + day, y.lots(20, 0, 1), rest > 0 ? zeros : 0);
    }
  }

  /** "how often the last THING is", the only one and the ninth. */
  private static void lotsTheLastThing() {
    NailsWantTheKingdom x = new NailsWantTheKingdom();
    for (int k = 1; k <= 9; k++) {
      Check.tell(x, "ts0;");
      if (k > 1) x.causes(k - 1, 0);
      check.due("the last of " + k, x.lots(20, 1, 1), zeros(DRAWS.get(1), 0, 20, 1));
      check.due("all of " + k, x.lots(20, 1, 0), k * zeros(DRAWS.get(1), 0, 20, 1));
    }
  }

  /** In mind: neither a war nor a seed stays. */
  private static void lotsChangeNothing() {
    NailsWantTheKingdom x = Check.told("tn0;tn0;ts0;ts0;c20;c31;l1;g0;d03;");
    List<Integer> seen = Check.all(x);
    int first = x.lots(7, 5, 0);
    for (int i = 0; i < 3; i++) check.due("lots(7, 5, 0) again", x.lots(7, 5, 0), first);
    check.holds("all is as it was", Check.all(x).equals(seen));
    for (int what = 11; what <= 16; what++) check.due("count(" + what + ")", x.count(what), 0);
  }

  /** "all that there is": of nothing, on DAY 0, and of nine THINGS with all they have, on DAY 999. */
  private static void imageOfNothingAndOfAll() {
    NailsWantTheKingdom x = new NailsWantTheKingdom();
    List<Integer> nothing = Check.all(x);
    check.due("image()", x.image(), 0);
    Check.tell(x, "tn1;ts2;th3;tb4;tk5;tw6;tn7;ts8;th9;c10;c21;c32;c43;c54;c65;c76;c87;l0;g5;");
    Check.onDay(x, 999);
    List<Integer> all = Check.all(x);
    check.due("on() to nothing", x.on(), 0);
    check.holds("nothing is there", Check.all(x).equals(nothing));
    check.due("image() of nothing", x.image(), 0);
    NailsWantTheKingdom y = Check.told("tn1;ts2;th3;tb4;tk5;tw6;tn7;ts8;th9;c10;c21;c32;c43;c54;c65;c76;c87;l0;g5;");
    Check.onDay(y, 999);
    check.due("image() of DAY 999", y.image(), 999);
    for (int i = 0; i < 9; i++) y.turn(i, 5 - i % 6, 0);
    for (int i = 1; i < 9; i++) y.causes(i, i - 1);
    y.guards(0);
    y.guards(5);
    y.mends(0);
    check.due("on() to DAY 999", y.on(), 999);
    check.holds("all is as then", Check.all(y).equals(all));
    check.due("no DAY more", y.days(1), -6);
  }

  /** "but it, the ROW, letters": they stay as they are with image() and with on(). */
  private static void imageButTheRowAndLetters() {
    NailsWantTheKingdom x = Check.told("tn0;");
    Check.numbers(x, 99);
    Check.letters(x, "l");
    check.due("image()", x.image(), 0);
    check.due("count(6) behind image()", x.count(6), 1);
    check.due("count(7) behind image()", x.count(7), 1);
    x.clear();
    Check.numbers(x, 99, 98);
    Check.letters(x, "0;g0;");
    check.due("on()", x.on(), 0);
    check.due("count(6) behind on()", x.count(6), 2);
    check.due("count(7) behind on()", x.count(7), 6);
    check.due("judge(), the second is none there", x.judge(), 1);
    check.due("state()", x.state(), 2);
    check.due("LOST", x.count(2), 1);
    check.due("on() then", x.on(), 0);
    check.due("no letters are of it", x.count(7), 0);
    check.due("no numbers are of it", x.count(6), 0);
    check.due("LOST then", x.count(2), 0);
  }

  /** "but .. REFUSALS": they go on. */
  private static void imageButRefusals() {
    NailsWantTheKingdom x = new NailsWantTheKingdom();
    x.on();
    x.when(0);
    x.image();
    x.when(0);
    x.when(0);
    check.due("on()", x.on(), 0);
    check.due("count(11)", x.count(11), 3);
    check.due("count(13)", x.count(13), 1);
    x.days(0);
    x.on();
    check.due("count(14)", x.count(14), 1);
  }

  /** "THE IMAGE is taken": another one goes into its place. */
  private static void imageAgain() {
    NailsWantTheKingdom x = Check.told("tn0;d01;");
    check.due("image()", x.image(), 1);
    Check.tell(x, "ts0;c10;l0;d05;");
    check.due("image() again", x.image(), 6);
    Check.tell(x, "tn0;m0;m1;d60;");
    check.due("on()", x.on(), 6);
    check.due("LOST", x.count(2), 3);
    check.due("THINGS", x.count(0), 2);
    check.due("image() as it is", x.image(), 6);
    check.due("on() as it is", x.on(), 6);
  }

  /** "ON from it all is as then": as often as it is asked; what goes on from it does not change it. */
  private static void onManyTimes() {
    NailsWantTheKingdom x = Check.told("tn0;ts1;c10;d03;");
    x.image();
    List<Integer> seen = Check.all(x);
    for (int i = 0; i < 5; i++) {
      x.loses(0);
      x.days(60);
      x.turn(1, 5, 9);
      x.guards(0);
      x.causes(1, 0);
      Check.tell(x, "tw9;");
      check.due("on()", x.on(), 3);
      check.holds("all is as then", Check.all(x).equals(seen));
    }
  }

  /** "-9 for another what", an int's least and greatest, too; nothing is counted. */
  private static void countOfAnother() {
    NailsWantTheKingdom x = Check.told("tn0;");
    for (int what : new int[] {MIN, MIN + 11, -16, -11, -10, -9, -1, 8, 9, 10, 17, 18, 27, 43, 75, 267, MAX}) {
      check.due("count(" + what + ")", x.count(what), NONE);
    }
    for (int what = 11; what <= 16; what++) check.due("count(" + what + ")", x.count(what), 0);
  }

  /** "6 in the ROW, 7 letters": from none to the most. */
  private static void countOfRowAndLetters() {
    NailsWantTheKingdom x = new NailsWantTheKingdom();
    for (int i = 0; i <= 16; i++) {
      check.due("count(6)", x.count(6), i);
      if (i < 16) x.row(i);
    }
    for (int i = 0; i <= 96; i++) {
      check.due("count(7)", x.count(7), i);
      if (i < 96) x.letter(i);
    }
    check.due("count(6) stays", x.count(6), 16);
  }
}
