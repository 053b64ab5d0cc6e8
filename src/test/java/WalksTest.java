/** Promises 10 to 13: where each kind goes, how long, what he pays, who comes round. */
public final class WalksTest {
  private static final int BAD = -1, NONE = -4;

  public static void main(String[] args) {
    walksOfTheFirstTown();
    waysOfTheFirstTown();
    rounds();
    tax();
    natives();
    strangers();
    stubbornOnes();
    honestOnes();
    whoStays();
    straightBack();
    toldOtherwise();
    atTheAim();
    wrongNumbers();
    Check.end();
  }

  private static void walked(LostAndTaxed x, int i, int... corners) {
    for (int k = 0; k <= 30; k++) {
      int want = corners[Math.min(k, corners.length - 1)];
      Check.due("walk(" + i + ", " + k + ")", x.walk(i, k), want);
    }
  }

  private static void way(LostAndTaxed x, int i, int... due) {
    for (int what = 0; what < 5; what++) {
      Check.due("way(" + i + ", " + what + ")", x.way(i, what), due[what]);
    }
  }

  private static void walksOfTheFirstTown() {
    LostAndTaxed x = new LostAndTaxed();
    walked(x, 0, 0, 1, 2, 3, 5);
    int[] circle = {1, 4, 3, 2};
    Check.due("walk(1, 0)", x.walk(1, 0), 0);
    for (int k = 1; k <= 30; k++) {
      Check.due("walk(1, " + k + ")", x.walk(1, k), circle[(k - 1) % 4]);
    }
    walked(x, 2, 2, 1, 0);
    walked(x, 3, 0, 4, 3, 5);
  }

  private static void waysOfTheFirstTown() {
    LostAndTaxed x = new LostAndTaxed();
    way(x, 0, 4, 11, 0, 0, 1);
    // Seven rounds of 1 4 3 2 behind 0 1, then 1 to 4: wrong are 1 to 4, 3 to 2 and 2 to 1.
    way(x, 1, 30, 95, 22, 44, 0);
    way(x, 2, 2, 9, 0, 2, 1);
    way(x, 3, 3, 13, 1, 2, 1);
  }

  private static void rounds() {
    LostAndTaxed x = new LostAndTaxed();
    Check.due("round(1)", x.round(1), 6);
    Check.due("round(0)", x.round(0), NONE);
    Check.due("round(2)", x.round(2), NONE);
    Check.due("round(3)", x.round(3), NONE);
    // 0 1 2 0 1: behind 4 steps he is at 1 from 0, as behind 1; at 0 he was from nowhere at first.
    LostAndTaxed y = Check.laid("s0,1,1;s1,2,1;s0,2,1;w1,0,3;w3,0,3;");
    Check.due("round of a triangle", y.round(0), 4);
    Check.due("round of a triangle, the last first", y.round(1), 4);
    // Back and forth, 0 1 0 1: behind 3 steps at 1 from 0.
    Check.due("round of one street", Check.laid("s0,1,1;w3,0,3;").round(0), 3);
    // 0 1 2 1 0 1: past a corner by the other side is no round.
    LostAndTaxed z = Check.laid("s0,1,1;s1,2,1;w3,0,3;");
    Check.due("round of two streets", z.round(0), 5);
    Check.due("who stays never comes round", Check.laid("w1,0,3;").round(0), NONE);
  }

  private static void tax() {
    LostAndTaxed x = new LostAndTaxed();
    Check.due("tax", x.tax(), 48);
    x.tell(0, 3);
    Check.due("tax, told otherwise", x.tax(), 50);
    x.undo();
    x.take(1);
    Check.due("tax with a sign less", x.tax(), 44);
    Check.due("no tax", Check.laid("s0,1,1;w0,0,1;").tax(), 0);
  }

  private static void natives() {
    // Two ways of the same length: by 1 and by 2.
    LostAndTaxed x = Check.laid("s0,2,3;s0,1,3;s2,3,3;s1,3,3;w0,0,3;w0,3,0;");
    walked(x, 0, 0, 1, 3);
    walked(x, 1, 3, 1, 0);
    // A street straight to the aim may be the longer way.
    LostAndTaxed y = Check.laid("s0,1,20;s0,3,5;s3,2,5;s2,1,5;g0,1,1;w0,0,1;");
    walked(y, 0, 0, 3, 2, 1);
    way(y, 0, 3, 15, 0, 0, 1);
    // As long by a street straight there and by another: the first corner by number.
    LostAndTaxed z = Check.laid("s0,2,4;s0,1,2;s1,2,2;w0,0,2;");
    walked(z, 0, 0, 1, 2);
  }

  private static void strangers() {
    String star = "c5;s0,1,1;s0,2,1;s0,3,1;s3,4,1;";
    walked(Check.laid(star + "w1,0,4;"), 0, 0, 1, 0, 2, 0, 1, 0, 2, 0, 1, 0, 2, 0, 1, 0, 2, 0, 1, 0, 2,
        0, 1, 0, 2, 0, 1, 0, 2, 0, 1, 0);
    walked(Check.laid(star + "g0,4,3;w1,0,4;"), 0, 0, 3, 4);
    // The latest counts; one for another aim or at another corner does not.
    walked(Check.laid(star + "g0,4,1;g0,4,3;g0,3,2;g1,4,0;w1,0,4;"), 0, 0, 3, 4);
    // The latest points where no street leads: on, not by the one ahead of it.
    LostAndTaxed x = Check.laid(star + "g0,4,3;g0,4,4;w1,0,4;");
    Check.due("on by the first", x.walk(0, 1), 1);
    LostAndTaxed y = Check.laid(star + "g0,4,3;g0,4,0;w1,0,4;");
    Check.due("a sign to its own corner", y.walk(0, 1), 1);
    // A sign may point straight back.
    LostAndTaxed z = Check.laid("s0,1,1;s1,2,1;g1,2,0;w1,0,2;");
    Check.due("back by a sign", z.walk(0, 2), 0);
    Check.due("never there", z.way(0, 4), 0);
  }

  private static void stubbornOnes() {
    LostAndTaxed x = Check.laid("c5;s0,1,1;s0,2,1;s0,3,1;s3,4,1;g0,1,1;w3,0,1;w3,1,4;");
    int[] due = {0, 3, 4, 3, 0, 2, 0, 3};
    for (int k = 0; k < due.length; k++) {
      Check.due("stubborn walk, " + k, x.walk(0, k), due[k]);
    }
    walked(x, 1, 1, 0, 3, 4);
  }

  private static void honestOnes() {
    LostAndTaxed x = Check.laid("s0,1,5;s1,2,6;g0,2,3;r9,9,7;w2,0,2;w2,0,3;w2,2,2;");
    walked(x, 0, 0, 1, 2);
    way(x, 0, 2, 13, 0, 14, 1);
    way(x, 1, 0, 0, 0, 0, 0);
    way(x, 2, 0, 0, 0, 0, 1);
  }

  private static void whoStays() {
    LostAndTaxed x = Check.laid("c5;s0,1,4;r9,9,9;g3,4,2;w0,0,4;w1,3,4;w2,1,4;w3,3,4;");
    for (int i = 0; i < 4; i++) {
      way(x, i, 0, 0, 0, 0, 0);
      walked(x, i, x.walker(i, 1));
    }
    Check.due("nobody pays", x.tax(), 0);
    // Where no way leads, who goes on all the same goes wrong each time.
    LostAndTaxed y = Check.laid("c5;s0,1,4;s1,2,4;r3,0,9;w1,0,4;w3,0,4;");
    way(y, 0, 30, 120, 30, 90, 0);
    way(y, 1, 30, 120, 30, 90, 0);
  }

  private static void straightBack() {
    // 0 1 2 1 0 1 2 ..: back at 2 and at 0, wrong each time.
    LostAndTaxed x = Check.laid("s0,1,1;s1,2,1;r2,5,0;w3,0,3;");
    way(x, 0, 30, 30, 30, 60 + 14 * 5, 0);
    // 0 1 0 2: the way back is the right one and costs nothing.
    LostAndTaxed y = Check.laid("s0,1,1;s0,2,1;r2,5,0;w1,0,2;");
    walked(y, 0, 0, 1, 0, 2);
    way(y, 0, 3, 3, 1, 2, 1);
    // Without r: 2 and 3.
    way(Check.laid("s0,1,1;w3,0,3;"), 0, 30, 30, 30, 60 + 29 * 3, 0);
  }

  private static void toldOtherwise() {
    LostAndTaxed x = Check.laid("s0,1,1;s1,2,1;s2,3,1;r2,5,1;w0,0,3;w2,0,3;");
    x.tell(0, 1);
    x.tell(1, 0);
    walked(x, 0, 0, 1, 2, 3);
    way(x, 0, 3, 3, 2, 4, 1);
    way(x, 1, 3, 6, 3, 9, 1);
    // TOLD where no way leads to: each step is wrong.
    LostAndTaxed y = Check.laid("c5;s0,1,1;s1,2,1;w0,0,2;");
    y.tell(0, 4);
    way(y, 0, 2, 2, 2, 4, 1);
  }

  private static void atTheAim() {
    LostAndTaxed x = Check.laid("s0,1,1;w0,0,0;w1,1,1;w2,0,0;w3,3,3;");
    for (int i = 0; i < 4; i++) {
      way(x, i, 0, 0, 0, 0, 1);
      Check.due("round at the aim", x.round(i), NONE);
      walked(x, i, x.walker(i, 1));
    }
    // A walk ends at the aim, not at the one told.
    LostAndTaxed y = Check.laid("s0,1,1;s1,2,1;w1,0,1;");
    y.tell(0, 0);
    walked(y, 0, 0, 1);
  }

  private static void wrongNumbers() {
    LostAndTaxed x = new LostAndTaxed();
    for (int bad : new int[] {-1, 4, Integer.MIN_VALUE, Integer.MAX_VALUE}) {
      Check.due("walk(" + bad + ", 0)", x.walk(bad, 0), BAD);
      Check.due("way(" + bad + ", 0)", x.way(bad, 0), BAD);
      Check.due("round(" + bad + ")", x.round(bad), BAD);
    }
    for (int bad : new int[] {-1, 31, Integer.MIN_VALUE, Integer.MAX_VALUE}) {
      Check.due("walk(0, " + bad + ")", x.walk(0, bad), BAD);
      Check.due("way(0, " + bad + ")", x.way(0, bad), BAD);
    }
    Check.due("way(0, 5)", x.way(0, 5), BAD);
    Check.due("one walker alone", Check.laid("w0,0,0;").round(1), BAD);
  }
}
