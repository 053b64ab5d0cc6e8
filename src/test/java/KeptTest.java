/** Promises 30 to 32: towns kept, gone back to, and how many there are of all. */
public final class KeptTest {
  private static final int BAD = -1, NO = -2, FULL = -3;

  public static void main(String[] args) {
    keeping();
    goingBack();
    whatIsNotKept();
    counting();
    Check.end();
  }

  private static void keeping() {
    LostAndTaxed x = new LostAndTaxed();
    x.put(0, 0, 0);
    Check.due("keep", x.keep(), 1);
    Check.due("one can be undone still", x.count(5), 1);
    Check.due("undo behind keep", x.undo(), 0);
    Check.due("keep", x.keep(), 2);
    Check.due("keep behind two", x.keep(), FULL);
    Check.due("two kept", x.count(6), 2);
  }

  private static void goingBack() {
    LostAndTaxed x = new LostAndTaxed();
    Check.due("nothing kept", x.back(), NO);
    x.tell(1, 4);
    x.keep();
    x.take(0);
    x.tell(1, 2);
    x.tell(2, 3);
    x.keep();
    x.take(0);
    x.take(0);
    x.put(5, 0, 3);
    x.tell(1, 1);
    Check.due("back", x.back(), 1);
    Check.due("two signs", x.count(2), 2);
    Check.due("the first of them", x.sign(0, 0), 4);
    Check.due("the second of them", x.sign(1, 0), 2);
    Check.due("told", x.walker(1, 3), 2);
    Check.due("nothing to undo", x.undo(), NO);
    x.put(0, 0, 0);
    Check.due("one to undo", x.count(5), 1);
    Check.due("back", x.back(), 0);
    Check.due("nothing to undo", x.count(5), 0);
    Check.due("three signs", x.count(2), 3);
    Check.due("the first of them", x.sign(0, 2), 4);
    Check.due("told", x.walker(1, 3), 4);
    Check.due("told of another", x.walker(2, 3), 0);
    Check.due("back of none", x.back(), NO);
    Check.due("three signs still", x.count(2), 3);
  }

  private static void whatIsNotKept() {
    LostAndTaxed x = new LostAndTaxed();
    x.keep();
    x.seen(0, 1, 1);
    x.write('c');
    x.put(1, 2, 3);
    x.back();
    Check.due("seen stays", x.count(4), 1);
    Check.due("the text stays", x.count(7), 1);
    x.put(1, 2, 3);
    Check.due("back of none", x.back(), NO);
    Check.due("a refused back leaves what can be undone", x.count(5), 1);
  }

  private static void counting() {
    LostAndTaxed x = new LostAndTaxed();
    x.write('c');
    x.write('3');
    x.put(0, 0, 0);
    x.put(0, 0, 0);
    x.take(0);
    x.seen(0, 0, 0);
    x.keep();
    int[] due = {6, 7, 4, 4, 1, 3, 1, 2};
    for (int what = 0; what < due.length; what++) {
      Check.due("count(" + what + ")", x.count(what), due[what]);
    }
    for (int bad : new int[] {-1, 8, Integer.MIN_VALUE, Integer.MAX_VALUE}) {
      Check.due("count(" + bad + ")", x.count(bad), BAD);
    }
  }
}
