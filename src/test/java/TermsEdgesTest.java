/** "Terms": each sentence that names an edge, worked by hand. */
public final class TermsEdgesTest {
  private static final int BAD = -1, NO = -2, FULL = -3, NONE = -4;

  /** All CORNERS in a row, 20 minutes from one to the next. */
  private static final String ROW = "c8;s0,1,20;s1,2,20;s2,3,20;s3,4,20;s4,5,20;s5,6,20;s6,7,20;";

  public static void main(String[] args) {
    farToItself();
    farByTheShortest();
    noFarWhereNoneLeads();
    nativesWithoutAWay();
    othersWithoutAStreet();
    strangersElseOnElseBack();
    stubbornElseBack();
    thirtySteps();
    lateAtTheAim();
    atTheAimAtOnce();
    wrongByTheAimTold();
    wrongWhereNoWayLeads();
    straightBack();
    taxWithoutRates();
    signsComeDown();
    theLastEight();
    theLastEightOfEachSort();
    undoingUpToTheEdge();
    roundAtTheLeast();
    noRoundWhenThere();
    Check.end();
  }

  private static void walked(LostAndTaxed x, int i, int... corners) {
    for (int k = 0; k < corners.length; k++) {
      Check.due("walk(" + i + ", " + k + ")", x.walk(i, k), corners[k]);
    }
  }

  private static void way(LostAndTaxed x, int i, int... due) {
    for (int what = 0; what < 5; what++) {
      Check.due("way(" + i + ", " + what + ")", x.way(i, what), due[what]);
    }
  }

  private static void stays(LostAndTaxed x, int i, int corner, int comes) {
    for (int k = 0; k <= 30; k++) {
      Check.due("stays: walk(" + i + ", " + k + ")", x.walk(i, k), corner);
    }
    way(x, i, 0, 0, 0, 0, comes);
    Check.due("stays: round(" + i + ")", x.round(i), NONE);
  }

  /** "FAR .. 0 to itself". */
  private static void farToItself() {
    LostAndTaxed x = Check.laid("c8;s0,1,1;w0,0,1;");
    for (int c = 0; c < 8; c++) {
      Check.due("far(" + c + ", " + c + ")", x.far(c, c), 0);
      Check.due("street(" + c + ", " + c + ")", x.street(c, c), NONE);
    }
    Check.due("of one corner alone", Check.laid("c1;w0,0,0;").far(0, 0), 0);
  }

  /** "how many minutes the shortest way between two CORNERS takes". */
  private static void farByTheShortest() {
    LostAndTaxed x = Check.laid(ROW + "w0,0,7;");
    for (int a = 0; a < 8; a++) {
      for (int b = 0; b < 8; b++) {
        Check.due("far(" + a + ", " + b + ")", x.far(a, b), 20 * Math.abs(a - b));
      }
    }
    // A minute shorter by a detour, as long, a minute longer.
    Check.due("shorter", Check.laid("s0,1,20;s0,2,9;s2,1,10;w0,0,0;").far(1, 0), 19);
    Check.due("as long", Check.laid("s0,1,20;s0,2,10;s2,1,10;w0,0,0;").far(1, 0), 20);
    Check.due("longer", Check.laid("s0,1,20;s0,2,10;s2,1,11;w0,0,0;").far(1, 0), 20);
    // A way of many steps may be the shortest.
    Check.due("many steps", Check.laid(
        "c8;s0,7,8;s0,1,1;s1,2,1;s2,3,1;s3,4,1;s4,5,1;s5,6,1;s6,7,1;w0,0,7;").way(0, 0), 7);
  }

  /** "none, if none leads". */
  private static void noFarWhereNoneLeads() {
    LostAndTaxed x = Check.laid("c8;s0,1,1;s1,2,1;s3,4,1;s5,6,1;s6,7,1;s7,5,1;w0,0,1;");
    int[] part = {0, 0, 0, 1, 1, 2, 2, 2};
    for (int a = 0; a < 8; a++) {
      for (int b = 0; b < 8; b++) {
        Check.holds("far(" + a + ", " + b + ")", (x.far(a, b) == NONE) == (part[a] != part[b]));
      }
    }
    LostAndTaxed none = Check.laid("c8;w0,0,1;");
    Check.due("no street at all", none.far(0, 7), NONE);
  }

  /** "Who has no way (NATIVES, HONEST: to the aim ..) stays where he is for good (without asking)." */
  private static void nativesWithoutAWay() {
    LostAndTaxed x = Check.laid("s0,1,1;s2,3,1;g0,3,1;r9,9,9;w0,0,3;w2,0,3;w0,3,1;w2,2,1;");
    stays(x, 0, 0, 0);
    stays(x, 1, 0, 0);
    stays(x, 2, 3, 0);
    stays(x, 3, 2, 0);
    Check.due("nobody pays", x.tax(), 0);
    x.tell(0, 1);
    x.tell(1, 1);
    stays(x, 0, 0, 0);
    stays(x, 1, 0, 0);
  }

  /** "(.. others: no STREET at all)". */
  private static void othersWithoutAStreet() {
    LostAndTaxed x = Check.laid("s2,3,1;g0,3,2;r9,9,9;w1,0,3;w3,0,3;w1,2,0;w3,2,0;");
    stays(x, 0, 0, 0);
    stays(x, 1, 0, 0);
    // One street is enough to go on by, though none leads to the aim.
    way(x, 2, 30, 30, 30, 30 * 9 + 29 * 9, 0);
    way(x, 3, 30, 30, 30, 30 * 9 + 29 * 9, 0);
  }

  /** "if a STREET leads there, else on: the first CORNER that is not the one they came from, else back". */
  private static void strangersElseOnElseBack() {
    String town = "c6;s0,1,1;s0,2,1;s0,3,1;s1,4,1;";
    // No sign there for the aim: at 0 on to 1; at 1, from 0, on to 4; at 4 back; at 1, from 4, on to 0; at 0 to 2.
    walked(Check.laid(town + "w1,0,5;"), 0, 0, 1, 4, 1, 0, 2, 0, 1);
    // Signs for another aim and at another corner are none.
    walked(Check.laid(town + "g0,4,3;g2,5,0;w1,0,5;"), 0, 0, 1, 4, 1, 0, 2, 0, 1);
    // The latest there points where no street leads, or to where it stands.
    walked(Check.laid(town + "g0,5,3;g0,5,4;w1,0,5;"), 0, 0, 1, 4);
    walked(Check.laid(town + "g0,5,3;g0,5,0;w1,0,5;"), 0, 0, 1, 4);
    walked(Check.laid(town + "g0,5,4;g0,5,3;w1,0,5;"), 0, 0, 3, 0, 3);
    // By a sign straight back, though there is another street.
    walked(Check.laid(town + "g1,5,0;w1,0,5;"), 0, 0, 1, 0, 2, 0, 1);
    // Signs are for the aim, not for the one told.
    LostAndTaxed x = Check.laid(town + "g0,4,3;g0,5,2;w1,0,5;");
    x.tell(0, 4);
    Check.due("by the aim", x.walk(0, 1), 2);
  }

  /** "go on to the last CORNER (by number) that is not the one they came from, else back". */
  private static void stubbornElseBack() {
    LostAndTaxed x = Check.laid("c8;s0,1,1;s0,7,1;s0,6,1;g0,5,1;w3,0,5;");
    walked(x, 0, 0, 7, 0, 6, 0, 7, 0, 6);
    walked(Check.laid("c2;s0,1,1;w3,0,1;"), 0, 0, 1, 1);
  }

  /** "WALKS are of 30 steps at most". */
  private static void thirtySteps() {
    LostAndTaxed x = Check.laid("s0,1,20;w1,0,3;w3,1,3;");
    for (int i = 0; i < 2; i++) {
      way(x, i, 30, 600, 30, 30 * 2 + 29 * 3, 0);
      Check.due("walk(" + i + ", 0)", x.walk(i, 0), i);
      Check.due("walk(" + i + ", 29)", x.walk(i, 29), 1 - i);
      Check.due("walk(" + i + ", 30)", x.walk(i, 30), i);
      Check.due("walk(" + i + ", 31)", x.walk(i, 31), BAD);
    }
  }

  /** "and end at the aim": however late. */
  private static void lateAtTheAim() {
    // From 1 up to 7, straight back there, down to 0: six steps away from the aim, then seven towards it.
    LostAndTaxed x = Check.laid(ROW + "w3,1,0;w1,6,7;");
    walked(x, 0, 1, 2, 3, 4, 5, 6, 7, 6, 5, 4, 3, 2, 1, 0, 0, 0);
    way(x, 0, 13, 260, 6, 12, 1);
    Check.due("walk(0, 30)", x.walk(0, 30), 0);
    // From 6 down to 0 and up to 7.
    way(x, 1, 13, 260, 6, 12, 1);
    Check.due("walk(1, 12)", x.walk(1, 12), 6);
    Check.due("walk(1, 13)", x.walk(1, 13), 7);
    Check.due("walk(1, 14)", x.walk(1, 14), 7);
    Check.due("no round", x.round(0), NONE);
    Check.due("no round", x.round(1), NONE);
  }

  /** "(at which one is at once, if from there)". */
  private static void atTheAimAtOnce() {
    LostAndTaxed x = Check.laid("s0,1,1;g0,0,1;r9,9,9;w0,0,0;w1,0,0;w2,0,0;w3,0,0;");
    LostAndTaxed apart = Check.laid("s0,1,1;r9,9,9;w0,3,3;w1,3,3;w2,3,3;w3,3,3;");
    for (int i = 0; i < 4; i++) {
      stays(x, i, 0, 1);
      stays(apart, i, 3, 1);
      x.tell(i, 1);
      stays(x, i, 0, 1);
    }
    Check.due("nobody pays", x.tax(), 0);
  }

  /** "A step is wrong by the aim TOLD (that is the aim, if none other is told)". */
  private static void wrongByTheAimTold() {
    LostAndTaxed x = Check.laid("s0,1,1;s1,2,1;s2,3,1;s0,3,3;r1,0,0;w0,0,3;");
    // By 1 and by the street to 3 it is as far.
    walked(x, 0, 0, 1, 2, 3, 3);
    int[] wrong = {3, 2, 1, 0};
    for (int told = 0; told < 4; told++) {
      x.tell(0, told);
      Check.due("wrong steps, told " + told, x.way(0, 2), wrong[told]);
      Check.due("tax, told " + told, x.way(0, 3), wrong[told]);
      Check.due("comes, told " + told, x.way(0, 4), 1);
      Check.due("at the aim, told " + told, x.walk(0, 30), 3);
    }
    // A step as long as FAR by a street straight there is right; a minute longer it is not.
    String town = "s0,1,1;s1,2,1;r1,0,0;w3,0,2;";
    Check.due("as long", Check.laid(town + "s0,2,2;").way(0, 2), 0);
    Check.due("a minute longer", Check.laid(town + "s0,2,3;").way(0, 2), 1);
  }

  /** ".. or is none". */
  private static void wrongWhereNoWayLeads() {
    LostAndTaxed x = Check.laid("s0,1,1;s1,2,1;r1,0,0;w0,0,2;w2,0,2;");
    x.tell(0, 3);
    x.tell(1, 3);
    way(x, 0, 2, 2, 2, 2, 1);
    way(x, 1, 2, 4, 2, 2, 1);
  }

  /** "and D more, if it leads straight back to where one just came from". */
  private static void straightBack() {
    // The first step leads straight back to nowhere.
    LostAndTaxed x = Check.laid("s0,1,1;r0,1,0;w3,0,3;");
    Check.due("all but the first", x.way(0, 3), 29);
    // 0 2 1 0 2 ..: never straight back.
    LostAndTaxed y = Check.laid("s0,1,1;s1,2,1;s2,0,1;r0,9,0;w3,0,3;");
    walked(y, 0, 0, 2, 1, 0, 2);
    Check.due("never", y.way(0, 3), 0);
    // 0 1 0 2: the step back is a right one.
    LostAndTaxed z = Check.laid("s0,1,1;s0,2,1;r0,9,0;w1,0,2;");
    way(z, 0, 3, 3, 1, 0, 1);
    // Told 1, it is a wrong one.
    z.tell(0, 1);
    way(z, 0, 3, 3, 2, 9, 1);
  }

  private static void taxWithoutRates() {
    LostAndTaxed x = Check.laid("s0,1,1;r0,0,0;w3,0,3;w2,0,1;");
    way(x, 0, 30, 30, 30, 0, 0);
    way(x, 1, 1, 2, 0, 0, 1);
    Check.due("tax", x.tax(), 0);
    LostAndTaxed y = Check.laid("s0,1,1;r9,9,9;w3,0,3;w3,0,3;w1,0,3;w1,1,3;");
    Check.due("most", y.tax(), 4 * (30 * 9 + 29 * 9));
  }

  /** "A SIGN is put up, taken down (those behind it come one down)". */
  private static void signsComeDown() {
    for (int taken = 0; taken < 8; taken++) {
      LostAndTaxed x = Check.laid("c8;g0,0,0;g1,1,1;g2,2,2;g3,3,3;g4,4,4;g5,5,5;g6,6,6;g7,7,7;w0,0,0;");
      Check.due("take(8)", x.take(8), BAD);
      Check.due("take(" + taken + ")", x.take(taken), 7);
      for (int k = 0; k < 7; k++) {
        for (int what = 0; what < 3; what++) {
          Check.due("sign(" + k + ", " + what + ") without " + taken, x.sign(k, what), k < taken ? k : k + 1);
        }
      }
      Check.due("sign(7, 0) is none", x.sign(7, 0), BAD);
      Check.due("put behind them", x.put(7, 0, 7), 8);
      Check.due("behind them", x.sign(7, 1), 0);
      Check.due("put one more", x.put(0, 0, 0), FULL);
    }
  }

  /** "UNDONE is the latest of these (the last 8 can be)." */
  private static void theLastEight() {
    for (int many = 0; many <= 10; many++) {
      LostAndTaxed x = Check.laid("c8;w0,0,0;");
      for (int k = 1; k <= many; k++) {
        Check.due("tell", x.tell(0, k % 8), (k - 1) % 8);
      }
      int can = Math.min(many, 8);
      Check.due("can be undone of " + many, x.count(5), can);
      for (int left = can - 1; left >= 0; left--) {
        Check.due("undo of " + many, x.undo(), left);
        Check.due("told", x.walker(0, 3), (many - can + left) % 8);
      }
      Check.due("nothing more of " + many, x.undo(), NO);
      Check.due("told still", x.walker(0, 3), (many - can) % 8);
    }
  }

  private static void theLastEightOfEachSort() {
    // Eight put and undone; then the ninth change pushes out the first one.
    LostAndTaxed x = Check.laid("c8;w0,0,0;");
    for (int k = 0; k < 8; k++) {
      Check.due("put", x.put(k, k, k), k + 1);
    }
    x.tell(0, 5);
    Check.due("eight can be", x.count(5), 8);
    for (int left = 7; left >= 0; left--) {
      Check.due("undo", x.undo(), left);
      Check.due("signs", x.count(2), left + 1);
    }
    Check.due("the first put is not undone", x.undo(), NO);
    Check.due("it stands", x.sign(0, 0), 0);
    Check.due("told as at first", x.walker(0, 3), 0);
    // Eight taken, then one told.
    LostAndTaxed y = Check.laid("c8;g0,0,0;g1,1,1;g2,2,2;g3,3,3;g4,4,4;g5,5,5;g6,6,6;g7,7,7;w0,0,0;");
    for (int k = 0; k < 8; k++) {
      Check.due("take", y.take(0), 7 - k);
    }
    y.tell(0, 5);
    for (int left = 7; left >= 0; left--) {
      Check.due("undo", y.undo(), left);
    }
    Check.due("the first taken is not undone", y.undo(), NO);
    Check.due("seven are up again", y.count(2), 7);
    for (int k = 0; k < 7; k++) {
      Check.due("sign(" + k + ", 0)", y.sign(k, 0), k + 1);
    }
  }

  private static void undoingUpToTheEdge() {
    LostAndTaxed x = new LostAndTaxed();
    // One taken of eight, one put again: undone, it is eight, seven, eight.
    while (x.count(2) < 8) {
      x.put(0, 0, 0);
    }
    Check.due("take", x.take(0), 7);
    Check.due("put", x.put(5, 4, 3), 8);
    Check.due("put behind 8", x.put(5, 4, 3), FULL);
    Check.due("seven can be undone", x.count(5), 7);
    Check.due("undo of put", x.undo(), 6);
    Check.due("seven signs", x.count(2), 7);
    Check.due("undo of take", x.undo(), 5);
    Check.due("eight signs", x.count(2), 8);
    Check.due("the first of them", x.sign(0, 0), 1);
    Check.due("put behind 8", x.put(5, 4, 3), FULL);
    // Down to none and up again.
    LostAndTaxed y = Check.laid("g0,1,2;w0,0,0;");
    Check.due("take", y.take(0), 0);
    Check.due("take of none", y.take(0), BAD);
    Check.due("undo", y.undo(), 0);
    Check.due("sign", y.sign(0, 2), 2);
    Check.due("undo", y.undo(), NO);
  }

  /** "ROUND: the first step (0: where he begins) at which a WALKER is where he was at an earlier one ..". */
  private static void roundAtTheLeast() {
    // 0 1 0 1: where he begins he has come from nowhere, so it is not behind 2 steps.
    LostAndTaxed x = Check.laid("s0,1,1;w1,0,3;w3,0,3;w1,1,3;w3,1,3;");
    for (int i = 0; i < 4; i++) {
      Check.due("round(" + i + ")", x.round(i), 3);
    }
    // Seven in a ring: 0 1 2 .. 6 0 1, at 1 from 0 again behind 8 steps.
    LostAndTaxed y = Check.laid("c8;s0,1,1;s1,2,1;s2,3,1;s3,4,1;s4,5,1;s5,6,1;s6,0,1;w1,0,7;w3,0,7;");
    Check.due("round of seven", y.round(0), 8);
    Check.due("round of seven, the other way", y.round(1), 8);
    // Seven in a row, from an end: six up, six down, at 1 from 0 again behind 13 steps.
    Check.due("round of a row", Check.laid(ROW.replace("s6,7,20;", "") + "w1,0,7;").round(0), 13);
    // Two streets in a row, begun in the middle: 1 0 1 2 1 0, at 0 from 1 again behind 5 steps.
    Check.due("begun in the middle", Check.laid("s0,1,1;s1,2,1;w1,1,3;").round(0), 5);
  }

  /** ".. aim not reached; none." */
  private static void noRoundWhenThere() {
    // 0 1 0 2: at 0 twice, but then at the aim.
    Check.due("there", Check.laid("s0,1,1;s0,2,1;w1,0,2;").round(0), NONE);
    // 0 1 2 3, by the sign back to 2, 1, 0, 7, 6, 5, 4: four corners twice, from the other side.
    LostAndTaxed late = Check.laid(
        "c8;s0,1,1;s1,2,1;s2,3,1;s3,4,1;s4,5,1;s5,6,1;s6,7,1;s7,0,1;g3,4,2;w1,0,4;");
    walked(late, 0, 0, 1, 2, 3, 2, 1, 0, 7, 6, 5, 4);
    Check.due("there at last", late.round(0), NONE);
    Check.due("there at once", Check.laid("s0,1,1;w1,0,0;").round(0), NONE);
    Check.due("by one step", Check.laid("s0,1,1;w1,0,1;").round(0), NONE);
    // The aim told does not end it.
    LostAndTaxed x = Check.laid("s0,1,1;w1,0,3;");
    x.tell(0, 1);
    Check.due("round for ever", x.round(0), 3);
  }
}
