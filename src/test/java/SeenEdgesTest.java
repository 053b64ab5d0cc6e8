import java.math.BigInteger;

/** "Terms", what was seen and what is kept: SEEN, KINDS, PAID, MEAN, A DAY and KEPT at the edges that they name. */
public final class SeenEdgesTest {
  private static final int BAD = -1, NO = -2, FULL = -3, NONE = -4;

  public static void main(String[] args) {
    eightSeen();
    stepsSeen();
    behindTheLastOneHeStays();
    kindsOfNothingSeen();
    kindsOfOneAlone();
    paidNothing();
    paidNineHundredAndNinetyNine();
    paidSets();
    meanOfNoSign();
    meanOfAllIfThereAreFewer();
    meanOfTheFirstFiveAlone();
    meanAsItIs();
    meanByStreetsAlone();
    meanByChance();
    meanInLowestTerms();
    meanAtMost();
    dayByItsDraws();
    dayOfOneCorner();
    dayWithNothingTold();
    twoKept();
    backAsKeptLast();
    layForgets();
    countsAtTheirEdges();
    Check.end();
  }

  /** "SEEN (8 at most)". */
  private static void eightSeen() {
    LostAndTaxed x = new LostAndTaxed();
    for (int round = 0; round < 2; round++) {
      Check.due("nothing seen", x.count(4), 0);
      Check.due("nothing to forget", x.forget(), 0);
      for (int k = 1; k <= 8; k++) {
        Check.due("seen no. " + k, x.seen(0, 0, 0), k);
        Check.due("seen", x.count(4), k);
      }
      Check.due("seen no. 9", x.seen(0, 0, 0), FULL);
      Check.due("of another, no. 9", x.seen(3, 5, 30), FULL);
      Check.due("eight seen", x.count(4), 8);
      Check.due("forget", x.forget(), 8);
    }
  }

  /** "behind k (0 to 30) steps". */
  private static void stepsSeen() {
    LostAndTaxed x = Check.laid("s0,1,1;w1,0,3;");
    Check.due("behind -1", x.seen(0, 0, -1), BAD);
    Check.due("behind 31", x.seen(0, 1, 31), BAD);
    Check.due("nothing seen", x.count(4), 0);
    // Strangers and stubborn ones go back and forth; natives and honest ones stay.
    Check.due("behind 0", x.seen(0, 0, 0), 1);
    Check.due("all", x.kinds(0), 15);
    Check.due("behind 30", x.seen(0, 0, 30), 2);
    Check.due("all", x.kinds(0), 15);
    Check.due("behind 29", x.seen(0, 1, 29), 3);
    Check.due("strangers and stubborn ones", x.kinds(0), 10);
    Check.due("behind 29, elsewhere", x.seen(0, 0, 29), 4);
    Check.due("none", x.kinds(0), 0);
  }

  /** "(behind the last one he stays)". */
  private static void behindTheLastOneHeStays() {
    // Natives go 0 3; strangers 0 1 0 2 0 1 ..; stubborn ones 0 3.
    LostAndTaxed x = Check.laid("s0,1,1;s0,2,1;s0,3,1;w0,0,3;");
    for (int k = 1; k <= 30; k++) {
      x.seen(0, 3, k);
      Check.due("at the aim behind " + k, x.kinds(0), 13);
      x.forget();
    }
    x.seen(0, 3, 0);
    Check.due("not yet there", x.kinds(0), 0);
    LostAndTaxed y = Check.laid("w0,2,3;");
    y.seen(0, 2, 30);
    Check.due("who has no way stays", y.kinds(0), 15);
    y.seen(0, 3, 30);
    Check.due("nobody is at the aim", y.kinds(0), 0);
  }

  /** "those (bits) by which all that was SEEN of him would be so". */
  private static void kindsOfNothingSeen() {
    LostAndTaxed x = new LostAndTaxed();
    for (int i = 0; i < 4; i++) {
      Check.due("nothing seen of " + i, x.kinds(i), 15);
    }
    x.seen(0, 5, 0);
    Check.due("nothing fits", x.kinds(0), 0);
    for (int i = 1; i < 4; i++) {
      Check.due("nothing seen of " + i, x.kinds(i), 15);
    }
  }

  private static void kindsOfOneAlone() {
    // From 0 to 4, natives by 2; strangers by the sign to 1; stubborn ones to 3.
    LostAndTaxed x = Check.laid("c5;s0,1,2;s0,2,1;s0,3,2;s1,4,1;s2,4,1;s3,4,1;g0,4,1;w0,0,4;w3,0,4;");
    int[] due = {0, 2, 5, 8, 0};
    for (int c = 0; c < 5; c++) {
      for (int i = 0; i < 2; i++) {
        x.seen(i, c, 1);
        Check.due("at " + c + " behind 1", x.kinds(i), due[c]);
        x.forget();
      }
    }
  }

  /** "PAID: of sets of WALKERS (bits) those whose TAX together is v (0 to 999)": 0. */
  private static void paidNothing() {
    for (int walkers = 1; walkers <= 4; walkers++) {
      LostAndTaxed x = Check.laid("w0,0,0;".repeat(walkers));
      Check.due("all sets, nobody's too", x.paid(0, 0), 1 << walkers);
      Check.due("the lowest is nobody's", x.paid(0, 1), 0);
      Check.due("paid(1, 0)", x.paid(1, 0), 0);
      Check.due("paid(1, 1)", x.paid(1, 1), NONE);
      Check.due("paid(-1, 0)", x.paid(-1, 0), BAD);
    }
    // Nobody's set is there, though all pay.
    LostAndTaxed y = Check.laid("s0,1,1;w2,0,1;");
    Check.due("one set", y.paid(0, 0), 1);
    Check.due("nobody's", y.paid(0, 1), 0);
    Check.due("his", y.paid(1, 1), 1);
  }

  private static void paidNineHundredAndNinetyNine() {
    // 0 1 0 ..: 30 and 29 times 9. 2 3 4 3 2 ..: 30 and 14 times 9. The honest ones, told 5: twice 9 for asking,
    // twice 9 for going wrong, each. 531, 396, 36 and 36.
    LostAndTaxed x = Check.laid("c8;s0,1,1;s2,3,1;s3,4,1;s5,6,1;s6,7,1;r9,9,9;w3,0,7;w3,2,7;w2,5,7;w2,5,7;");
    x.tell(2, 5);
    x.tell(3, 5);
    Check.due("tax", x.tax(), 999);
    Check.due("paid(999, 0)", x.paid(999, 0), 1);
    Check.due("paid(999, 1)", x.paid(999, 1), 15);
    Check.due("paid(998, 1)", x.paid(998, 1), NONE);
    Check.due("paid(963, 0)", x.paid(963, 0), 2);
    Check.due("paid(963, 1)", x.paid(963, 1), 7);
    Check.due("paid(1000, 0)", x.paid(1000, 0), BAD);
    Check.due("paid(1000, 1)", x.paid(1000, 1), BAD);
  }

  private static void paidSets() {
    // Four who pay 1 each: so many of them as v, the lowest numbers first.
    LostAndTaxed x = Check.laid("s0,1,1;w2,0,1;w2,0,1;w2,0,1;w2,0,1;");
    int[] many = {1, 4, 6, 4, 1, 0};
    int[] lowest = {0, 1, 3, 7, 15, NONE};
    for (int v = 0; v < many.length; v++) {
      Check.due("paid(" + v + ", 0)", x.paid(v, 0), many[v]);
      Check.due("paid(" + v + ", 1)", x.paid(v, 1), lowest[v]);
    }
  }

  private static void mean(LostAndTaxed x, int n, int chance, int above, int below) {
    Check.due("mean(" + n + ", " + chance + ", 0)", x.mean(n, chance, 0), above);
    Check.due("mean(" + n + ", " + chance + ", 1)", x.mean(n, chance, 1), below);
  }

  /** "each of the first n SIGNS (0 to 5 ..": none of them. */
  private static void meanOfNoSign() {
    LostAndTaxed none = Check.laid("s0,1,1;r1,0,0;w1,0,3;");
    LostAndTaxed some = Check.laid("s0,1,1;s0,2,1;g0,2,2;r1,0,0;w1,0,2;w1,0,3;");
    for (int x = 0; x <= 10; x++) {
      mean(some, 0, x, 30, 1);
      for (int n = 0; n <= 5; n++) {
        mean(none, n, x, 30, 1);
      }
    }
  }

  /** ".. all, if there are fewer)". */
  private static void meanOfAllIfThereAreFewer() {
    // Turned, the only sign sends him 0 1 0 1 ..: 15.
    LostAndTaxed x = Check.laid("s0,1,1;s0,2,1;g0,2,2;r1,0,0;w1,0,2;");
    mean(x, 0, 10, 0, 1);
    for (int n = 1; n <= 5; n++) {
      mean(x, n, 10, 15, 1);
      mean(x, n, 1, 3, 2);
    }
    Check.due("mean(6, 10, 0)", x.mean(6, 10, 0), BAD);
  }

  private static void meanOfTheFirstFiveAlone() {
    // The sign that counts is the last one of so many.
    for (int many = 1; many <= 8; many++) {
      LostAndTaxed x = Check.laid("s0,1,1;s0,2,1;" + "g3,3,3;".repeat(many - 1) + "g0,2,2;r1,0,0;w1,0,2;");
      for (int n = 0; n <= 5; n++) {
        mean(x, n, 10, n >= many ? 15 : 0, 1);
      }
    }
  }

  /** "(as it is, if there is none)". */
  private static void meanAsItIs() {
    // At 0 the only street is the one it points by.
    LostAndTaxed x = Check.laid("s0,1,1;s1,2,1;g0,2,1;r1,0,0;w1,0,2;");
    mean(x, 1, 10, 0, 1);
    mean(x, 1, 5, 0, 1);
    // No street at all.
    LostAndTaxed y = Check.laid("g0,2,1;r1,0,0;w1,0,2;");
    mean(y, 1, 10, 0, 1);
    mean(Check.laid("c1;g0,0,0;w1,0,0;"), 5, 10, 0, 1);
  }

  /** "pointing to the first CORNER by a STREET that is not its N instead". */
  private static void meanByStreetsAlone() {
    // It points to 3, where no street leads, so that he goes on to 1; turned, to 1 as well, again and again.
    LostAndTaxed x = Check.laid("s0,1,1;s0,2,1;s2,3,1;g0,3,3;r1,0,0;w1,0,3;");
    Check.due("0 1 0 2 3", x.tax(), 1);
    mean(x, 1, 10, 15, 1);
    mean(x, 1, 5, 8, 1);
    // It points to the first; turned, to the second.
    LostAndTaxed y = Check.laid("s0,1,1;s0,2,1;s0,3,1;g0,2,1;r1,0,0;w1,0,2;");
    mean(y, 1, 0, 15, 1);
    mean(y, 1, 10, 0, 1);
    // Not to the last corner that is there.
    LostAndTaxed z = Check.laid("s0,1,1;s0,2,1;s0,3,1;g0,3,2;r1,0,0;w1,0,3;");
    mean(z, 1, 10, 15, 1);
  }

  /** "by the chance of x (0 to 10) of ten for itself". */
  private static void meanByChance() {
    // 15 coins by the turned sign: 15 x of ten.
    LostAndTaxed x = Check.laid("s0,1,1;s0,2,1;g0,2,2;r1,0,0;w1,0,2;");
    int[] above = {0, 3, 3, 9, 6, 15, 9, 21, 12, 27, 15};
    int[] below = {1, 2, 1, 2, 1, 2, 1, 2, 1, 2, 1};
    for (int chance = 0; chance <= 10; chance++) {
      mean(x, 1, chance, above[chance], below[chance]);
    }
    Check.due("mean(1, 11, 0)", x.mean(1, 11, 0), BAD);
    Check.due("mean(1, -1, 0)", x.mean(1, -1, 0), BAD);
  }

  /** "in lowest terms". */
  private static void meanInLowestTerms() {
    // Up a row from 1 to 6 by five signs; at the first turned one, i, he goes to and fro for good, wrong at i:
    // 15, 15, 14, 14 or 13 times.
    LostAndTaxed x = Check.laid(
        "c7;s0,1,1;s1,2,1;s2,3,1;s3,4,1;s4,5,1;s5,6,1;g1,6,2;g2,6,3;g3,6,4;g4,6,5;g5,6,6;r1,0,0;w1,1,6;");
    mean(x, 1, 1, 3, 2);
    mean(x, 2, 1, 57, 20);
    mean(x, 3, 1, 498, 125);
    mean(x, 4, 1, 25023, 5000);
    mean(x, 5, 1, 585753, 100000);
    mean(x, 5, 10, 15, 1);
    mean(x, 5, 0, 0, 1);
  }

  private static void meanAtMost() {
    // As much as can be: 4 times 30 and 29 times 9, whatever is turned.
    LostAndTaxed x = Check.laid("s0,1,1;g0,3,1;g1,3,0;g0,3,1;g1,3,0;g0,3,1;r9,9,9;w1,0,3;w1,0,3;w1,1,3;w1,1,3;");
    for (int chance = 0; chance <= 10; chance++) {
      mean(x, 5, chance, 2124, 1);
    }
  }

  /** "A DAY by z (0 to 9999)": as a town in which the WALKERS go by its draws. */
  private static void dayByItsDraws() {
    String streets = "s0,1,3;s1,2,4;s2,3,5;s3,4,6;s4,0,7;s1,5,2;";
    for (int corners : new int[] {6, 7, 8}) {
      for (int z : new int[] {0, 1, 2, 4999, 5000, 9997, 9998, 9999}) {
        String town = "c" + corners + ";" + streets + "r1,2,3;g0,3,4;g1,3,5;g2,0,1;";
        LostAndTaxed x = Check.laid(town + "w0,0,0;w1,0,0;w2,0,0;w3,0,0;");
        StringBuilder drawn = new StringBuilder(town);
        for (int i = 0; i < 4; i++) {
          int draw = draw(z, i);
          drawn.append("w" + i + "," + draw % corners + "," + draw / 8 % corners + ";");
        }
        LostAndTaxed y = Check.laid(drawn.toString());
        int come = y.way(0, 4) + y.way(1, 4) + y.way(2, 4) + y.way(3, 4);
        Check.due("day(" + z + ", 0)", x.day(z, 0), y.tax());
        Check.due("day(" + z + ", 1)", x.day(z, 1), come);
        Check.due("he does not go otherwise for it", x.walker(3, 1), 0);
      }
    }
    // The greatest q is 79200535; its square is beyond an int.
    Check.due("draw of 9999 and 3", draw(9999, 3), 79200535L * 79200535L % 65521);
    LostAndTaxed x = new LostAndTaxed();
    Check.due("day(-1, 0)", x.day(-1, 0), BAD);
    Check.due("day(10000, 0)", x.day(10000, 0), BAD);
  }

  private static int draw(int z, int i) {
    BigInteger q = BigInteger.valueOf(7919).multiply(BigInteger.valueOf(z))
        .add(BigInteger.valueOf(6151).multiply(BigInteger.valueOf(i))).add(BigInteger.ONE);
    return q.multiply(q).mod(BigInteger.valueOf(65521)).intValue();
  }

  private static void dayOfOneCorner() {
    LostAndTaxed x = Check.laid("c1;w0,0,0;w1,0,0;w2,0,0;w3,0,0;");
    for (int z : new int[] {0, 9999}) {
      Check.due("nobody pays", x.day(z, 0), 0);
      Check.due("all are there", x.day(z, 1), 4);
    }
  }

  /** "nothing TOLD otherwise". */
  private static void dayWithNothingTold() {
    LostAndTaxed x = new LostAndTaxed();
    int tax = x.day(3, 0);
    for (int i = 0; i < 4; i++) {
      for (int c = 0; c < 6; c++) {
        x.tell(i, c);
        Check.due("whatever is told", x.day(3, 0), tax);
        Check.due("told as it was", x.walker(i, 3), c);
      }
    }
  }

  /** "KEPT are SIGNS, what is TOLD: 2 at most." */
  private static void twoKept() {
    LostAndTaxed x = new LostAndTaxed();
    for (int round = 0; round < 2; round++) {
      Check.due("nothing kept", x.count(6), 0);
      Check.due("back of none", x.back(), NO);
      Check.due("keep", x.keep(), 1);
      Check.due("keep", x.keep(), 2);
      Check.due("keep, the third", x.keep(), FULL);
      Check.due("two kept", x.count(6), 2);
      Check.due("back", x.back(), 1);
      Check.due("keep again", x.keep(), 2);
      Check.due("keep, the third", x.keep(), FULL);
      Check.due("back", x.back(), 1);
      Check.due("back", x.back(), 0);
    }
  }

  /** "As KEPT last: how many are left; nothing is UNDONE then." */
  private static void backAsKeptLast() {
    // Kept with no sign, then with eight.
    LostAndTaxed x = Check.laid("c8;w0,0,0;w1,1,1;w2,2,2;w3,3,3;");
    x.keep();
    for (int k = 0; k < 8; k++) {
      x.put(k, 7 - k, k);
      x.tell(k % 4, 7 - k % 4);
    }
    x.keep();
    Check.due("keep leaves what can be undone", x.count(5), 8);
    for (int k = 0; k < 8; k++) {
      x.take(0);
    }
    x.tell(0, 3);
    Check.due("no sign", x.count(2), 0);
    Check.due("back", x.back(), 1);
    Check.due("eight signs", x.count(2), 8);
    Check.due("nothing can be undone", x.count(5), 0);
    Check.due("undo", x.undo(), NO);
    for (int k = 0; k < 8; k++) {
      Check.due("corner", x.sign(k, 0), k);
      Check.due("to", x.sign(k, 1), 7 - k);
      Check.due("by", x.sign(k, 2), k);
    }
    for (int i = 0; i < 4; i++) {
      Check.due("told", x.walker(i, 3), 7 - i);
    }
    x.tell(0, 1);
    Check.due("back", x.back(), 0);
    Check.due("no sign", x.count(2), 0);
    Check.due("nothing can be undone", x.count(5), 0);
    for (int i = 0; i < 4; i++) {
      Check.due("told as at first", x.walker(i, 3), i);
    }
    Check.due("back of none", x.back(), NO);
  }

  /** Promise 5: "nothing TOLD otherwise, SEEN, UNDONE, KEPT": as much as there may be of each. */
  private static void layForgets() {
    LostAndTaxed x = States.full();
    int[] full = {8, 12, 8, 4, 8, 8, 2, 200};
    int[] laid = {8, 12, 8, 4, 0, 0, 0, 200};
    for (int what = 0; what < 8; what++) {
      Check.due("full: count(" + what + ")", x.count(what), full[what]);
    }
    Check.due("lay", x.lay(), 8);
    for (int what = 0; what < 8; what++) {
      Check.due("laid: count(" + what + ")", x.count(what), laid[what]);
    }
    for (int i = 0; i < 4; i++) {
      Check.due("told", x.walker(i, 3), x.walker(i, 2));
      Check.due("nothing seen", x.kinds(i), 15);
    }
    Check.due("undo", x.undo(), NO);
    Check.due("back", x.back(), NO);
    Check.due("forget", x.forget(), 0);
  }

  /** Promise 32: nothing there yet, and as many as may be. */
  private static void countsAtTheirEdges() {
    LostAndTaxed x = States.bare();
    int[] bare = {1, 0, 0, 1, 0, 0, 0, 0};
    for (int what = 0; what < 8; what++) {
      Check.due("bare: count(" + what + ")", x.count(what), bare[what]);
    }
    Check.due("count(-1)", x.count(-1), BAD);
    Check.due("count(8)", x.count(8), BAD);
  }
}
