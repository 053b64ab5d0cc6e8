/** Promises 1 to 9: a new object, the text, its faults, what is laid, and what it tells. */
public final class TownsTest {
  private static final int BAD = -1, NO = -2, FULL = -3, NONE = -4;

  public static void main(String[] args) {
    newObject();
    writing();
    wiping();
    faultsOfForm();
    faultsOfNumbers();
    faultsOfPlentyAndOrder();
    laying();
    layingClears();
    refusedLayChangesNothing();
    lastOnesCount();
    distances();
    streets();
    signs();
    walkers();
    Check.end();
  }

  private static void newObject() {
    LostAndTaxed x = new LostAndTaxed();
    int[] counts = {6, 7, 3, 4, 0, 0, 0, 0};
    for (int what = 0; what < counts.length; what++) {
      Check.due("new: count(" + what + ")", x.count(what), counts[what]);
    }
    int[][] signs = {{1, 5, 4}, {4, 5, 3}, {2, 5, 1}};
    int[][] walkers = {{0, 0, 5, 5}, {1, 0, 5, 5}, {2, 2, 0, 0}, {3, 0, 5, 5}};
    int[][] streets = {{0, 1, 3}, {1, 2, 4}, {2, 3, 2}, {0, 4, 5}, {4, 3, 6}, {1, 4, 1}, {3, 5, 2}};
    for (int k = 0; k < signs.length; k++) {
      for (int what = 0; what < 3; what++) {
        Check.due("new: sign(" + k + ", " + what + ")", x.sign(k, what), signs[k][what]);
      }
    }
    for (int i = 0; i < walkers.length; i++) {
      for (int what = 0; what < 4; what++) {
        Check.due("new: walker(" + i + ", " + what + ")", x.walker(i, what), walkers[i][what]);
      }
    }
    for (int[] s : streets) {
      Check.due("new: street " + s[0] + "-" + s[1], x.street(s[0], s[1]), s[2]);
    }
    Check.due("new: undo", x.undo(), NO);
    Check.due("new: back", x.back(), NO);
    Check.due("new: wipe", x.wipe(), 0);
    LostAndTaxed other = new LostAndTaxed();
    x.put(0, 0, 1);
    Check.due("another object is not changed", other.count(2), 3);
  }

  private static void writing() {
    LostAndTaxed x = new LostAndTaxed();
    Check.due("write(31)", x.write(31), BAD);
    Check.due("write(127)", x.write(127), BAD);
    Check.due("write(-1)", x.write(-1), BAD);
    Check.due("write(65536 + 'c')", x.write(65536 + 'c'), BAD);
    Check.due("write(MIN)", x.write(Integer.MIN_VALUE), BAD);
    Check.due("write(32)", x.write(32), 1);
    Check.due("write(126)", x.write(126), 2);
    for (int k = 3; k <= 200; k++) {
      Check.due("write no. " + k, x.write('c'), k);
    }
    Check.due("write behind 200", x.write('c'), FULL);
    Check.due("a bad letter behind 200", x.write(127), BAD);
    Check.due("200 letters", x.count(7), 200);
  }

  private static void wiping() {
    LostAndTaxed x = Check.typed("c3;w0,0,1;");
    Check.due("wipe", x.wipe(), 10);
    Check.due("letters behind wipe", x.count(7), 0);
    Check.due("wipe again", x.wipe(), 0);
    Check.due("wipe leaves what is laid", x.count(0), 6);
    Check.type(x, "c2;w0,0,1;");
    Check.due("written anew", x.lay(), 2);
    Check.due("lay leaves THE TEXT", x.count(7), 10);
    Check.due("wipe behind 200", wipeBehindFull(), 200);
  }

  private static int wipeBehindFull() {
    LostAndTaxed x = new LostAndTaxed();
    for (int k = 0; k < 220; k++) {
      x.write(' ');
    }
    return x.wipe();
  }

  private static void fault(String text, int want) {
    Check.due("fault of " + text, Check.faultOf(text), want);
  }

  private static void faultsOfForm() {
    fault("", NONE);
    fault("c3;", NONE);
    fault("c3", 0);
    fault("c", 0);
    fault("c;", 0);
    fault("c3,", 0);
    fault("c3,4;", 0);
    fault("c003;", 0);
    fault("c03;", NONE);
    fault("c 3;", 0);
    fault("c3; ", 3);
    fault("c3;;", 3);
    fault("x", 0);
    fault("C3;", 0);
    fault("3;", 0);
    fault("c3;x1,2,3;", 3);
    fault("s0,1,5", 0);
    fault("s0,1;", 0);
    fault("s0,1,5,6;", 0);
    fault("s0,1,;", 0);
    fault("s0,,5;", 0);
    fault("s,1,5;", 0);
    fault("s0,1,005;", 0);
    fault("s00,01,05;", NONE);
    fault("s0;1;5;", 0);
    fault("s-1,1,5;", 0);
    fault("c2;w0,0,1;w", 10);
    fault("s0,1,5;s1,2,5;s2,3,5;s0,3,0;", 21);
  }

  private static void faultsOfNumbers() {
    fault("c0;", 0);
    fault("c1;", NONE);
    fault("c8;", NONE);
    fault("c9;", 0);
    fault("c18;", 0);
    fault("c2;s0,1,1;", NONE);
    fault("s0,1,20;", NONE);
    fault("s0,1,21;", 0);
    fault("s0,1,0;", 0);
    fault("s2,2,3;", 0);
    fault("s0,3,3;", NONE);
    fault("s0,4,3;", 0);
    fault("s4,0,3;", 0);
    fault("s0,1,3;s0,1,4;", 7);
    fault("s0,1,3;s1,0,4;", 7);
    fault("g3,3,3;", NONE);
    fault("g4,0,0;", 0);
    fault("g0,4,0;", 0);
    fault("g0,0,4;", 0);
    fault("c1;g0,0,0;", NONE);
    fault("c1;g0,0,1;", 3);
    fault("w3,3,3;", NONE);
    fault("w4,0,0;", 0);
    fault("w0,4,0;", 0);
    fault("w0,0,4;", 0);
    fault("r0,0,0;", NONE);
    fault("r9,9,9;", NONE);
    fault("r09,9,9;", NONE);
    fault("r10,0,0;", 0);
    fault("r0,10,0;", 0);
    fault("r0,0,10;", 0);
  }

  private static void faultsOfPlentyAndOrder() {
    fault("c3;c5;c2;", NONE);
    fault("c3;s0,1,2;c5;", 10);
    fault("r1,1,1;c5;", 7);
    fault("w0,0,0;c4;", 7);
    fault("g0,0,0;c4;", 7);
    fault("c8;c2;g0,0,2;", 6);
    fault("c2;c8;g0,0,7;", NONE);
    String twelve = "c8;s0,1,1;s0,2,1;s0,3,1;s0,4,1;s0,5,1;s0,6,1;s0,7,1;s1,2,1;s1,3,1;s1,4,1;s1,5,1;s1,6,1;";
    fault(twelve, NONE);
    fault(twelve + "s1,7,1;", 87);
    fault("g0,1,2;".repeat(8), NONE);
    fault("g0,1,2;".repeat(9), 56);
    fault("w0,1,2;".repeat(4), NONE);
    fault("w0,1,2;".repeat(5), 28);
    fault("r1,2,3;".repeat(28), NONE);
    fault("c4;".repeat(66), NONE);
    fault("c4;".repeat(66) + "c4", 198);
  }

  private static void laying() {
    Check.due("lay of nothing", new LostAndTaxed().lay(), NO);
    Check.due("lay without a walker", Check.typed("c5;s0,1,2;").lay(), NO);
    Check.due("lay with a fault", Check.typed("w0,0,0;c4;").lay(), NO);
    Check.due("lay of one walker", Check.typed("c1;w0,0,0;").lay(), 1);
    Check.due("lay without c", Check.typed("w0,0,3;").lay(), 4);
    Check.due("lay of 8", Check.typed("c8;w0,0,7;").lay(), 8);
    LostAndTaxed x = Check.laid("s0,1,5;w2,0,1;");
    int[] counts = {4, 1, 0, 1, 0, 0, 0, 14};
    for (int what = 0; what < counts.length; what++) {
      Check.due("laid: count(" + what + ")", x.count(what), counts[what]);
    }
    Check.due("street of the town before", x.street(1, 2), NONE);
    Check.due("way of the town before", x.far(0, 2), NONE);
    Check.due("asking without r", x.way(0, 3), 1);
  }

  private static void layingClears() {
    LostAndTaxed x = Check.typed("c6;s0,1,3;w0,0,5;");
    x.tell(0, 3);
    x.put(0, 0, 0);
    x.seen(0, 0, 0);
    x.keep();
    Check.due("lay", x.lay(), 6);
    Check.due("nothing told otherwise", x.walker(0, 3), 5);
    Check.due("no sign", x.count(2), 0);
    Check.due("nothing seen", x.count(4), 0);
    Check.due("nothing can be undone", x.count(5), 0);
    Check.due("nothing kept", x.count(6), 0);
    Check.due("undo behind lay", x.undo(), NO);
    Check.due("back behind lay", x.back(), NO);
    x.put(1, 1, 1);
    Check.due("lay the same again", x.lay(), 6);
    Check.due("the sign put up is gone", x.count(2), 0);
  }

  private static void refusedLayChangesNothing() {
    LostAndTaxed x = new LostAndTaxed();
    x.tell(0, 3);
    x.put(0, 0, 0);
    x.seen(0, 0, 0);
    x.keep();
    Check.type(x, "c3;s0,1,9;g0,0,0;r9,9,9;");
    Check.due("lay without a walker", x.lay(), NO);
    Check.type(x, "w0,0,2;w0,0,3;");
    Check.due("fault", x.fault(), 31);
    Check.due("lay with a fault", x.lay(), NO);
    int[] counts = {6, 7, 4, 4, 1, 2, 1, 38};
    for (int what = 0; what < counts.length; what++) {
      Check.due("refused: count(" + what + ")", x.count(what), counts[what]);
    }
    Check.due("refused: told", x.walker(0, 3), 3);
    Check.due("refused: street", x.street(0, 1), 3);
    Check.due("refused: far", x.far(0, 5), 11);
    Check.due("refused: rates", x.way(2, 3), 2);
  }

  private static void lastOnesCount() {
    Check.due("the last c", Check.typed("c3;c7;w0,0,6;").lay(), 7);
    LostAndTaxed x = Check.laid("r9,9,9;s0,1,2;w2,0,1;r1,1,4;");
    Check.due("the last r", x.way(0, 3), 4);
  }

  private static void distances() {
    LostAndTaxed x = new LostAndTaxed();
    int[][] due = {
      {0, 3, 7, 9, 4, 11}, {3, 0, 4, 6, 1, 8}, {7, 4, 0, 2, 5, 4},
      {9, 6, 2, 0, 6, 2}, {4, 1, 5, 6, 0, 8}, {11, 8, 4, 2, 8, 0}};
    for (int a = 0; a < 6; a++) {
      for (int b = 0; b < 6; b++) {
        Check.due("far(" + a + ", " + b + ")", x.far(a, b), due[a][b]);
      }
    }
    for (int bad : new int[] {-1, 6, 8, Integer.MIN_VALUE, Integer.MAX_VALUE}) {
      Check.due("far(" + bad + ", 0)", x.far(bad, 0), BAD);
      Check.due("far(0, " + bad + ")", x.far(0, bad), BAD);
    }
    LostAndTaxed y = Check.laid("c8;s0,1,20;s1,2,20;s2,3,20;s3,4,20;s4,5,20;s5,6,20;w0,0,1;");
    Check.due("a long way", y.far(0, 6), 120);
    Check.due("no way", y.far(0, 7), NONE);
    Check.due("no way back", y.far(7, 0), NONE);
    Check.due("no way, to itself", y.far(7, 7), 0);
  }

  private static void streets() {
    LostAndTaxed x = new LostAndTaxed();
    Check.due("street(4, 3)", x.street(4, 3), 6);
    Check.due("street(3, 4)", x.street(3, 4), 6);
    Check.due("street(0, 2)", x.street(0, 2), NONE);
    Check.due("street(5, 5)", x.street(5, 5), NONE);
    for (int bad : new int[] {-1, 6, 8, Integer.MIN_VALUE, Integer.MAX_VALUE}) {
      Check.due("street(" + bad + ", 0)", x.street(bad, 0), BAD);
      Check.due("street(0, " + bad + ")", x.street(0, bad), BAD);
    }
    Check.due("street(6, 6)", x.street(6, 6), BAD);
    Check.due("20 minutes", Check.laid("s3,0,20;w0,0,0;").street(0, 3), 20);
  }

  private static void signs() {
    LostAndTaxed x = new LostAndTaxed();
    for (int bad : new int[] {-1, 3, 8, 9, Integer.MIN_VALUE, Integer.MAX_VALUE}) {
      Check.due("sign(" + bad + ", 0)", x.sign(bad, 0), BAD);
    }
    Check.due("sign(0, -1)", x.sign(0, -1), BAD);
    Check.due("sign(0, 3)", x.sign(0, 3), BAD);
    x.put(5, 4, 3);
    Check.due("sign(3, 0)", x.sign(3, 0), 5);
    Check.due("sign(3, 1)", x.sign(3, 1), 4);
    Check.due("sign(3, 2)", x.sign(3, 2), 3);
    Check.due("no sign", Check.laid("w0,0,0;").sign(0, 0), BAD);
  }

  private static void walkers() {
    LostAndTaxed x = new LostAndTaxed();
    for (int bad : new int[] {-1, 4, 5, Integer.MIN_VALUE, Integer.MAX_VALUE}) {
      Check.due("walker(" + bad + ", 0)", x.walker(bad, 0), BAD);
    }
    Check.due("walker(0, -1)", x.walker(0, -1), BAD);
    Check.due("walker(0, 4)", x.walker(0, 4), BAD);
    x.tell(2, 4);
    Check.due("aim", x.walker(2, 2), 0);
    Check.due("aim told", x.walker(2, 3), 4);
    Check.due("one walker alone", Check.laid("w0,0,0;").walker(1, 0), BAD);
  }
}
