/** Promises 18 to 23: signs that lie, lure, mend, the aim to tell, the corner to watch, the street missed. */
public final class WouldBeTest {
  private static final int BAD = -1, NONE = -4;

  public static void main(String[] args) {
    lies();
    lures();
    lureBehindEight();
    noLure();
    mends();
    bestAims();
    watches();
    misses();
    nothingChanges();
    wrongNumbers();
    Check.end();
  }

  private static void lies() {
    Check.due("lies of the first town", new LostAndTaxed().lies(), 5);
    String town = "c5;s0,1,3;s1,2,3;s0,2,6;s2,3,1;w0,0,1;";
    lie(town, "", 0);
    lie(town, "g0,2,1;", 0);
    lie(town, "g0,2,2;", 0);
    lie(town, "g0,1,2;", 1);
    lie(town, "g0,3,3;", 1);
    lie(town, "g0,3,0;", 1);
    lie(town, "g0,0,1;", 1);
    lie(town, "g0,0,0;", 1);
    lie(town, "g0,4,1;", 1);
    lie(town, "g4,4,4;", 1);
    lie(town, "g0,2,1;g0,1,2;g0,1,1;g3,0,2;g3,0,1;g2,1,1;g1,2,0;g4,0,0;", 2 + 16 + 64 + 128);
  }

  private static void lie(String town, String signs, int want) {
    Check.due("lies of " + signs, Check.laid(town + signs).lies(), want);
  }

  private static void lures() {
    // The stranger goes 0 1 2; at 0 he may be lured to 3, from where he goes back.
    String town = "s0,1,1;s1,2,1;s0,3,1;r2,3,1;w1,0,2;";
    LostAndTaxed x = Check.laid(town);
    Check.due("no tax", x.tax(), 0);
    // To 3 at 0: 0 3 0 3 .., 15 wrong steps, 14 of them straight back. To 0 at 1: 0 1 0 3 0 1 0 3 ..,
    // 15 wrong ones too, but 8 of them straight back.
    Check.due("lure", x.lure(0), 23);
    Check.due("as much", x.lure(1), 15 * 2 + 14 * 3);
    Check.due("lure changes nothing", x.count(2), 0);
    Check.due("nor the tax", x.tax(), 0);
    LostAndTaxed y = Check.laid("s0,1,1;s1,2,1;s2,3,1;r2,0,1;w1,1,3;");
    // To 0 at 1: 1 0 1 0 .., 15 wrong steps; to 1 at 2: 1 0 1 2 1 0 .., 15 as well.
    Check.due("tax", y.tax(), 2);
    Check.due("lure of several", y.lure(0), 130);
    Check.due("as much of several", y.lure(1), 30);
  }

  private static void lureBehindEight() {
    LostAndTaxed x = Check.laid("s0,1,1;s1,2,1;s0,3,1;" + "g0,2,1;g1,2,2;".repeat(4) + "w1,0,2;");
    Check.due("no tax", x.tax(), 0);
    // To 0 at 1: 0 1 0 1 .., 15 wrong steps, all straight back.
    Check.due("lure behind eight", x.lure(0), 120);
    Check.due("as much", x.lure(1), 75);
    Check.due("eight signs", x.count(2), 8);
    Check.due("no tax still", x.tax(), 0);
  }

  private static void noLure() {
    LostAndTaxed none = Check.laid("s0,1,1;s1,2,1;s0,3,1;w0,0,2;w2,0,2;w3,0,2;");
    Check.due("natives are not lured", none.lure(0), NONE);
    Check.due("natives are not lured", none.lure(1), NONE);
    Check.due("bad ahead of none", none.lure(2), BAD);
    Check.due("none without streets", Check.laid("w1,0,2;").lure(0), NONE);
    // All that a stranger can pay, he pays.
    LostAndTaxed most = Check.laid("s0,1,1;w1,0,2;");
    Check.due("not more than now", most.lure(0), NONE);
  }

  private static void mends() {
    LostAndTaxed x = new LostAndTaxed();
    Check.due("mend(0)", x.mend(0), 1);
    Check.due("mend(1)", x.mend(1), 44);
    Check.due("signs stay", x.count(2), 3);
    Check.due("order stays", x.sign(1, 0), 4);
    // Of several the first, though none is less than now.
    LostAndTaxed y = Check.laid("s0,1,1;g3,3,3;g2,2,2;w0,0,1;");
    Check.due("of several the first", y.mend(0), 0);
    Check.due("as much", y.mend(1), 0);
    // Without the right sign more is paid, and mend may not do better than now.
    LostAndTaxed z = Check.laid("s0,1,1;s0,2,1;g0,2,2;w1,0,2;");
    Check.due("the only one", z.mend(0), 0);
    Check.due("more than now", z.mend(1), 2);
    // The latest sign hides the one below it.
    LostAndTaxed v = Check.laid("s0,1,1;s0,2,1;g0,2,2;g0,2,1;w1,0,2;");
    Check.due("the later one", v.mend(0), 1);
    Check.due("nothing is paid then", v.mend(1), 0);
    LostAndTaxed none = Check.laid("s0,1,1;w0,0,1;");
    Check.due("none", none.mend(0), NONE);
    Check.due("none", none.mend(1), NONE);
    Check.due("bad ahead of none", none.mend(-1), BAD);
  }

  private static void bestAims() {
    LostAndTaxed x = new LostAndTaxed();
    Check.due("best(0, 0)", x.best(0, 0), 5);
    Check.due("best(0, 1)", x.best(0, 1), 0);
    // 0 4 3 5: on the shortest way to 4 by no step, to 3 by the second and third, to 5 likewise.
    Check.due("best(3, 0)", x.best(3, 0), 3 + 2);
    Check.due("best(3, 1)", x.best(3, 1), 2);
    // 0 1 0 2: told 0, both 0 to 1 and 0 to 2 are wrong; told 1: back to 0 and to 2; told 2: 0 to 1.
    LostAndTaxed y = Check.laid("s0,1,1;s0,2,1;r2,3,1;w1,0,2;");
    Check.due("the aim itself", y.best(0, 0), 2);
    Check.due("as much", y.best(0, 1), 2);
    y.tell(0, 3);
    Check.due("whatever is told", y.best(0, 1), 2);
    Check.due("told stays", y.walker(0, 3), 3);
    // 0 1 0 1 .. for ever: told 1, 15 wrong and straight back; told 0, 15 wrong, 14 straight back.
    LostAndTaxed z = Check.laid("s0,1,1;r2,3,1;w1,0,2;");
    Check.due("another aim", z.best(0, 0), 0);
    Check.due("as much", z.best(0, 1), 15 * 2 + 14 * 3);
    // Who stays pays nothing, whatever is told: the lowest.
    LostAndTaxed v = Check.laid("w0,3,2;w2,0,3;s0,3,1;");
    Check.due("the lowest", v.best(0, 0), 0);
    Check.due("asking is paid all the same", v.best(1, 1), 1);
    Check.due("the aim", v.best(1, 0), 3);
  }

  private static void watches() {
    LostAndTaxed x = new LostAndTaxed();
    // The stranger goes wrong at 1 eight times, at 3 and 2 seven times each; the stubborn one once at 0.
    Check.due("watch(0)", x.watch(0), 1);
    Check.due("watch(1)", x.watch(1), 8);
    x.tell(0, 0);
    Check.due("watch, told otherwise", x.watch(1), 9);
    LostAndTaxed none = Check.laid("w0,0,1;s0,1,1;");
    Check.due("nobody goes wrong", none.watch(0), 0);
    Check.due("nobody goes wrong", none.watch(1), 0);
    // 0 1 0 1 .. and 1 0 1 0 ..: 30 at either.
    LostAndTaxed y = Check.laid("s0,1,1;w1,0,2;w1,1,2;");
    Check.due("the lowest", y.watch(0), 0);
    Check.due("how many", y.watch(1), 30);
    LostAndTaxed z = Check.laid("s3,1,1;w1,3,2;w1,3,0;w0,3,1;");
    z.tell(2, 2);
    Check.due("a later corner", z.watch(0), 3);
    Check.due("how many", z.watch(1), 31);
  }

  private static void misses() {
    LostAndTaxed x = new LostAndTaxed();
    Check.due("missed(0)", x.missed(0), 6);
    Check.due("missed(1)", x.missed(1), 567);
    Check.due("the street is there", x.street(3, 5), 2);
    Check.due("far as ever", x.far(0, 5), 11);
    // Without 1: 0 to 2 by 1 takes 10 rather than 4. Without 0 or 2 nothing changes.
    LostAndTaxed y = Check.laid("s0,1,5;s0,2,4;s1,2,5;w3,0,2;w1,2,0;");
    Check.due("a way around", y.missed(0), 1);
    Check.due("minutes more", y.missed(1), 12);
    y.tell(0, 1);
    Check.due("by the aims, not by those told", y.missed(1), 12);
    // No way now and none without: 200 either way; of several the first.
    LostAndTaxed z = Check.laid("s0,1,5;s1,2,5;w0,0,3;");
    Check.due("of several the first", z.missed(0), 0);
    Check.due("nothing more", z.missed(1), 0);
    LostAndTaxed v = Check.laid("s0,1,5;s1,2,5;w0,0,2;w0,1,2;w0,3,3;");
    Check.due("most for two", v.missed(0), 1);
    Check.due("as 200", v.missed(1), 190 + 195);
    LostAndTaxed none = Check.laid("w0,0,3;");
    Check.due("none", none.missed(0), NONE);
    Check.due("none", none.missed(1), NONE);
    Check.due("bad ahead of none", none.missed(2), BAD);
  }

  private static void nothingChanges() {
    LostAndTaxed x = new LostAndTaxed();
    for (int what = 0; what < 2; what++) {
      x.lure(what);
      x.mend(what);
      x.best(1, what);
      x.watch(what);
      x.missed(what);
      x.mean(3, 5, what);
      x.day(77, what);
      x.paid(3, what);
    }
    Check.due("nothing can be undone", x.count(5), 0);
    Check.due("tax", x.tax(), 48);
    Check.due("walk", x.walk(1, 30), 4);
    Check.due("lies", x.lies(), 5);
  }

  private static void wrongNumbers() {
    LostAndTaxed x = new LostAndTaxed();
    for (int bad : new int[] {-1, 2, Integer.MIN_VALUE, Integer.MAX_VALUE}) {
      Check.due("lure(" + bad + ")", x.lure(bad), BAD);
      Check.due("mend(" + bad + ")", x.mend(bad), BAD);
      Check.due("best(0, " + bad + ")", x.best(0, bad), BAD);
      Check.due("watch(" + bad + ")", x.watch(bad), BAD);
      Check.due("missed(" + bad + ")", x.missed(bad), BAD);
    }
    for (int bad : new int[] {-1, 4, Integer.MIN_VALUE, Integer.MAX_VALUE}) {
      Check.due("best(" + bad + ", 0)", x.best(bad, 0), BAD);
    }
  }
}
