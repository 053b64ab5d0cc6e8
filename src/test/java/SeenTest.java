/** Promises 24 to 29: what was seen, the kinds that fit, who paid, the mean, days by draws. */
public final class SeenTest {
  private static final int BAD = -1, FULL = -3, NONE = -4;

  public static void main(String[] args) {
    seeing();
    forgetting();
    kinds();
    paid();
    paidByAll();
    meanOfOne();
    meanInLowestTerms();
    meanOfMany();
    meanNumbers();
    days();
    dayNumbers();
    Check.end();
  }

  private static void seeing() {
    LostAndTaxed x = new LostAndTaxed();
    for (int k = 1; k <= 8; k++) {
      Check.due("seen", x.seen(k % 4, 5, 30), k);
    }
    Check.due("seen behind eight", x.seen(0, 0, 0), FULL);
    Check.due("bad ahead of full", x.seen(0, 0, 31), BAD);
    Check.due("eight seen", x.count(4), 8);
    LostAndTaxed y = new LostAndTaxed();
    for (int bad : new int[] {-1, 6, 31, Integer.MIN_VALUE, Integer.MAX_VALUE}) {
      Check.due("seen(" + bad + ", 0, 0)", y.seen(bad, 0, 0), BAD);
      Check.due("seen(0, " + bad + ", 0)", y.seen(0, bad, 0), BAD);
    }
    Check.due("seen(4, 0, 0)", y.seen(4, 0, 0), BAD);
    Check.due("seen(0, 0, -1)", y.seen(0, 0, -1), BAD);
    Check.due("seen(0, 0, 31)", y.seen(0, 0, 31), BAD);
    Check.due("none seen", y.count(4), 0);
    Check.due("seen(3, 5, 0)", y.seen(3, 5, 0), 1);
    Check.due("the same again", y.seen(3, 5, 0), 2);
    Check.due("seen is not undone", y.undo(), -2);
  }

  private static void forgetting() {
    LostAndTaxed x = new LostAndTaxed();
    Check.due("nothing to forget", x.forget(), 0);
    x.seen(0, 4, 1);
    x.seen(0, 5, 0);
    Check.due("no kind", x.kinds(0), 0);
    Check.due("forget", x.forget(), 2);
    Check.due("forgotten", x.count(4), 0);
    Check.due("all kinds", x.kinds(0), 15);
    Check.due("seen anew", x.seen(0, 4, 1), 1);
    Check.due("the stubborn one", x.kinds(0), 8);
  }

  private static void kinds() {
    LostAndTaxed x = new LostAndTaxed();
    // From 0 to 5: native and honest 0 1 2 3 5, stranger 0 1 4 3 2 1 .., stubborn 0 4 3 5.
    x.seen(0, 1, 1);
    Check.due("at 1 behind 1", x.kinds(0), 7);
    Check.due("of another nothing is seen", x.kinds(3), 15);
    x.seen(0, 3, 3);
    Check.due("at 3 behind 3", x.kinds(0), 7);
    x.seen(0, 5, 30);
    Check.due("at 5 behind 30", x.kinds(0), 5);
    x.seen(3, 5, 4);
    Check.due("at 5 behind 4, who came behind 3 too", x.kinds(3), 13);
    x.forget();
    x.seen(0, 0, 0);
    Check.due("where all begin", x.kinds(0), 15);
    x.seen(0, 1, 0);
    Check.due("where none begins", x.kinds(0), 0);
    for (int bad : new int[] {-1, 4, Integer.MIN_VALUE, Integer.MAX_VALUE}) {
      Check.due("kinds(" + bad + ")", x.kinds(bad), BAD);
    }
    // By the signs as they stand.
    LostAndTaxed y = new LostAndTaxed();
    y.seen(1, 4, 1);
    Check.due("stubborn", y.kinds(1), 8);
    y.put(0, 5, 4);
    Check.due("stranger or stubborn", y.kinds(1), 10);
  }

  private static void paid() {
    LostAndTaxed x = new LostAndTaxed();
    // They pay 0, 44, 2 and 2.
    int[][] due = {{0, 2, 0}, {2, 4, 4}, {4, 2, 12}, {44, 2, 2}, {46, 4, 6}, {48, 2, 14}};
    for (int[] row : due) {
      Check.due("paid(" + row[0] + ", 0)", x.paid(row[0], 0), row[1]);
      Check.due("paid(" + row[0] + ", 1)", x.paid(row[0], 1), row[2]);
    }
    Check.due("paid(3, 0)", x.paid(3, 0), 0);
    Check.due("paid(3, 1)", x.paid(3, 1), NONE);
    Check.due("paid(999, 1)", x.paid(999, 1), NONE);
    for (int bad : new int[] {-1, 1000, Integer.MIN_VALUE, Integer.MAX_VALUE}) {
      Check.due("paid(" + bad + ", 0)", x.paid(bad, 0), BAD);
      Check.due("paid(0, " + bad + ")", x.paid(0, bad), BAD);
    }
    Check.due("paid(0, 2)", x.paid(0, 2), BAD);
    Check.due("paid(999, 2)", x.paid(999, 2), BAD);
    x.tell(0, 3);
    Check.due("by the aim told", x.paid(50, 1), 15);
  }

  private static void paidByAll() {
    LostAndTaxed x = Check.laid("w0,0,0;w0,0,0;w0,0,0;w0,0,0;");
    Check.due("all sets", x.paid(0, 0), 16);
    LostAndTaxed y = Check.laid("w0,0,0;");
    Check.due("two sets", y.paid(0, 0), 2);
    Check.due("none pays", y.paid(1, 0), 0);
    // 30 times 9 and 29 times 9 each.
    LostAndTaxed z = Check.laid("s0,1,1;r9,9,9;w1,0,2;w1,0,2;");
    Check.due("one of two", z.paid(531, 0), 2);
    Check.due("the lowest", z.paid(531, 1), 1);
  }

  private static void mean(LostAndTaxed x, int n, int chance, int above, int below) {
    Check.due("mean(" + n + ", " + chance + ", 0)", x.mean(n, chance, 0), above);
    Check.due("mean(" + n + ", " + chance + ", 1)", x.mean(n, chance, 1), below);
  }

  private static void meanOfOne() {
    // By the sign 0 2 pays nothing; turned to 1, from where he goes back, 72.
    LostAndTaxed x = Check.laid("s0,1,1;s0,2,1;g0,2,2;w1,0,2;");
    mean(x, 0, 10, 0, 1);
    mean(x, 1, 0, 0, 1);
    mean(x, 1, 10, 72, 1);
    mean(x, 1, 5, 36, 1);
    mean(x, 1, 1, 36, 5);
    mean(x, 1, 3, 108, 5);
    mean(x, 5, 3, 108, 5);
    Check.due("the sign stands", x.sign(0, 2), 2);
    // A sign with no other street to turn to stays as it is.
    mean(Check.laid("s0,1,1;s1,2,1;g0,2,1;w1,0,2;"), 1, 10, 0, 1);
    // One that points where no street leads is turned to the first corner by a street.
    LostAndTaxed y = Check.laid("s0,1,1;s0,2,1;s2,3,1;g0,3,3;g0,3,2;w1,0,3;");
    mean(y, 2, 0, 0, 1);
    mean(y, 2, 10, 72, 1);
    mean(y, 1, 10, 0, 1);
  }

  private static void meanInLowestTerms() {
    // 2 coins for the wrong street and 0 for the right one: R times x of ten.
    LostAndTaxed x = Check.laid("s0,1,1;s0,2,1;s1,2,1;g0,2,2;r3,0,0;w1,0,2;");
    mean(x, 1, 10, 3, 1);
    mean(x, 1, 1, 3, 10);
    mean(x, 1, 2, 3, 5);
    mean(x, 1, 4, 6, 5);
    mean(x, 1, 5, 3, 2);
  }

  private static void meanOfMany() {
    // At 0 either street is as long, but by 1 one is led astray unless the sign there is turned as well.
    LostAndTaxed x = Check.laid("c5;s0,1,1;s0,2,1;s1,3,1;s2,3,1;s1,4,1;s4,3,1;g0,3,2;g1,3,3;r5,0,0;w1,0,3;");
    // Turned both: 0 1, then at 1 to 0 (the first not 3), and so on: 0 1 0 1, wrong 15 times.
    mean(x, 1, 10, 0, 1);
    mean(x, 2, 10, 75, 1);
    mean(x, 2, 5, 75, 4);
    mean(x, 2, 1, 3, 4);
    mean(x, 2, 9, 243, 4);
    mean(x, 5, 9, 243, 4);
  }

  private static void meanNumbers() {
    LostAndTaxed x = new LostAndTaxed();
    mean(x, 0, 5, 48, 1);
    for (int bad : new int[] {-1, 11, Integer.MIN_VALUE, Integer.MAX_VALUE}) {
      Check.due("mean(" + bad + ", 0, 0)", x.mean(bad, 0, 0), BAD);
      Check.due("mean(0, " + bad + ", 0)", x.mean(0, bad, 0), BAD);
      Check.due("mean(0, 0, " + bad + ")", x.mean(0, 0, bad), BAD);
    }
    Check.due("mean(6, 0, 0)", x.mean(6, 0, 0), BAD);
    Check.due("mean(0, 0, 2)", x.mean(0, 0, 2), BAD);
    Check.due("mean(5, 10, 1)", x.mean(5, 10, 1), 1);
  }

  private static void days() {
    // z 0: q of 0 is 1, DRAW 1, from 1 to 0; q of 1 is 6152, DRAW 41487, from 3 to 5185 modulo 4, 1.
    LostAndTaxed x = Check.laid("s0,1,1;s1,3,1;s3,2,1;r2,3,5;w2,2,3;w3,0,0;");
    // The honest one asks once. The stubborn one goes from 3 to 2, back to 3, on to 1: 3 to 2 is wrong.
    Check.due("day(0, 0)", x.day(0, 0), 5 + 2);
    Check.due("day(0, 1)", x.day(0, 1), 2);
    x.tell(0, 3);
    Check.due("nothing told otherwise", x.day(0, 0), 7);
    Check.due("told stays", x.walker(0, 3), 3);
    // z 9999: q 79182082, DRAW 10303: from 10303 modulo 3, 1, to 1287 modulo 3, 0.
    LostAndTaxed y = Check.laid("c3;s0,2,1;s2,1,1;r2,3,5;w2,0,0;");
    Check.due("day(9999, 0)", y.day(9999, 0), 10);
    Check.due("day(9999, 1)", y.day(9999, 1), 1);
    LostAndTaxed alone = Check.laid("c1;w1,0,0;w2,0,0;");
    Check.due("one corner", alone.day(1234, 1), 2);
    Check.due("no way", Check.laid("c2;w1,0,0;").day(0, 1), 0);
  }

  private static void dayNumbers() {
    LostAndTaxed x = new LostAndTaxed();
    for (int bad : new int[] {-1, 10000, Integer.MIN_VALUE, Integer.MAX_VALUE}) {
      Check.due("day(" + bad + ", 0)", x.day(bad, 0), BAD);
      Check.due("day(0, " + bad + ")", x.day(0, bad), BAD);
    }
    Check.due("day(0, 2)", x.day(0, 2), BAD);
  }
}
