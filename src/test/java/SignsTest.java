/** Promises 14 to 17: signs put up and taken down, aims told otherwise, undone. */
public final class SignsTest {
  private static final int BAD = -1, NO = -2, FULL = -3;

  public static void main(String[] args) {
    putting();
    taking();
    telling();
    undoing();
    undoingTheLastEight();
    undoingTakesInTheMiddle();
    refusedCallsAreNotUndone();
    Check.end();
  }

  private static void signIs(LostAndTaxed x, int k, int c, int t, int n) {
    Check.due("sign(" + k + ", 0)", x.sign(k, 0), c);
    Check.due("sign(" + k + ", 1)", x.sign(k, 1), t);
    Check.due("sign(" + k + ", 2)", x.sign(k, 2), n);
  }

  private static void putting() {
    LostAndTaxed x = new LostAndTaxed();
    for (int k = 4; k <= 8; k++) {
      Check.due("put", x.put(k - 3, 0, 5), k);
      signIs(x, k - 1, k - 3, 0, 5);
    }
    Check.due("put behind 8", x.put(0, 0, 0), FULL);
    Check.due("bad ahead of full", x.put(0, 0, 6), BAD);
    Check.due("8 signs", x.count(2), 8);
    LostAndTaxed y = new LostAndTaxed();
    for (int bad : new int[] {-1, 6, 7, Integer.MIN_VALUE, Integer.MAX_VALUE}) {
      Check.due("put(" + bad + ", 0, 0)", y.put(bad, 0, 0), BAD);
      Check.due("put(0, " + bad + ", 0)", y.put(0, bad, 0), BAD);
      Check.due("put(0, 0, " + bad + ")", y.put(0, 0, bad), BAD);
    }
    Check.due("put to its own corner, for it", y.put(0, 0, 0), 4);
    // The latest sign counts for the stranger.
    Check.due("walk", y.walk(1, 1), 1);
    y.put(0, 5, 4);
    Check.due("walk by the sign put up", y.walk(1, 1), 4);
  }

  private static void taking() {
    LostAndTaxed x = new LostAndTaxed();
    Check.due("take(3)", x.take(3), BAD);
    Check.due("take(-1)", x.take(-1), BAD);
    Check.due("take(MAX)", x.take(Integer.MAX_VALUE), BAD);
    Check.due("take(0)", x.take(0), 2);
    signIs(x, 0, 4, 5, 3);
    signIs(x, 1, 2, 5, 1);
    Check.due("take(1)", x.take(1), 1);
    signIs(x, 0, 4, 5, 3);
    Check.due("take(0)", x.take(0), 0);
    Check.due("take(0) of none", x.take(0), BAD);
    Check.due("put behind all are taken", x.put(1, 2, 3), 1);
    signIs(x, 0, 1, 2, 3);
  }

  private static void telling() {
    LostAndTaxed x = new LostAndTaxed();
    Check.due("tell(1, 2)", x.tell(1, 2), 5);
    Check.due("tell(1, 2) again", x.tell(1, 2), 2);
    Check.due("tell(1, 0)", x.tell(1, 0), 2);
    Check.due("told", x.walker(1, 3), 0);
    Check.due("aim", x.walker(1, 2), 5);
    Check.due("others are not told", x.walker(0, 3), 5);
    Check.due("three can be undone", x.count(5), 3);
    for (int bad : new int[] {-1, 6, 7, Integer.MIN_VALUE, Integer.MAX_VALUE}) {
      Check.due("tell(" + bad + ", 0)", x.tell(bad, 0), BAD);
      Check.due("tell(0, " + bad + ")", x.tell(0, bad), BAD);
    }
    Check.due("tell(4, 0)", x.tell(4, 0), BAD);
  }

  private static void undoing() {
    LostAndTaxed x = new LostAndTaxed();
    Check.due("nothing to undo", x.undo(), NO);
    x.put(0, 1, 2);
    x.tell(3, 1);
    x.take(0);
    x.tell(3, 2);
    Check.due("undo of tell", x.undo(), 3);
    Check.due("told as it was", x.walker(3, 3), 1);
    Check.due("undo of take", x.undo(), 2);
    signIs(x, 0, 1, 5, 4);
    signIs(x, 3, 0, 1, 2);
    Check.due("undo of tell", x.undo(), 1);
    Check.due("told as at first", x.walker(3, 3), 5);
    Check.due("undo of put", x.undo(), 0);
    Check.due("three signs", x.count(2), 3);
    Check.due("nothing more", x.undo(), NO);
    Check.due("three signs still", x.count(2), 3);
    signIs(x, 2, 2, 5, 1);
  }

  private static void undoingTheLastEight() {
    LostAndTaxed x = new LostAndTaxed();
    for (int k = 0; k < 13; k++) {
      x.tell(0, k % 6);
      Check.due("how many can be undone", x.count(5), Math.min(k + 1, 8));
    }
    for (int left = 7; left >= 0; left--) {
      Check.due("undo", x.undo(), left);
      Check.due("told", x.walker(0, 3), (left + 4) % 6);
    }
    Check.due("the ninth", x.undo(), NO);
    Check.due("told behind all", x.walker(0, 3), 4);
    x.tell(0, 1);
    Check.due("undo of a new one", x.undo(), 0);
    Check.due("told as before", x.walker(0, 3), 4);
  }

  private static void undoingTakesInTheMiddle() {
    LostAndTaxed x = new LostAndTaxed();
    x.take(1);
    x.take(0);
    x.take(0);
    Check.due("none", x.count(2), 0);
    Check.due("undo", x.undo(), 2);
    signIs(x, 0, 2, 5, 1);
    Check.due("undo", x.undo(), 1);
    signIs(x, 0, 1, 5, 4);
    signIs(x, 1, 2, 5, 1);
    Check.due("undo", x.undo(), 0);
    signIs(x, 0, 1, 5, 4);
    signIs(x, 1, 4, 5, 3);
    signIs(x, 2, 2, 5, 1);
    while (x.count(2) < 8) {
      x.put(0, 0, 0);
    }
    x.take(0);
    Check.due("undo of take, to eight", x.undo(), 5);
    Check.due("eight", x.count(2), 8);
    signIs(x, 0, 1, 5, 4);
  }

  private static void refusedCallsAreNotUndone() {
    LostAndTaxed x = new LostAndTaxed();
    x.put(6, 0, 0);
    x.take(3);
    x.tell(0, 6);
    x.tell(4, 0);
    Check.due("nothing to undo", x.count(5), 0);
    while (x.count(2) < 8) {
      x.put(0, 0, 0);
    }
    x.put(0, 0, 0);
    Check.due("five to undo", x.count(5), 5);
  }
}
