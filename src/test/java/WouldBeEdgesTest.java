/** "Terms", what would be: LIES, LURE, MEND, TELL, WATCH and MISSED at the edges that they name, worked by hand. */
public final class WouldBeEdgesTest {
  private static final int BAD = -1, NONE = -4;

  public static void main(String[] args) {
    liesWhereNoStreetLeads();
    liesAwayFromTheShortest();
    liesAtTheAimItself();
    liesWhereNoWayLeads();
    liesOfNoneAndOfEight();
    lureBehindNoneAndBehindEight();
    lureByAStreetAlone();
    noLure();
    lureOfSeveral();
    lureOfTheLastCorner();
    noMend();
    mendOfOneAndOfEight();
    mendOfSeveral();
    tellTheLowest();
    tellTheLast();
    watchWhereNobodyGoesWrong();
    watchTheLowestAndTheLast();
    noMissed();
    missedAsTwoHundred();
    missedOfSeveral();
    missedTheTwelfth();
    Check.end();
  }

  private static void lie(String town, String sign, int want) {
    Check.due("lies of " + sign, Check.laid(town + sign + "w0,0,0;").lies(), want);
  }

  private static void both(String name, int which, int much, int whichDue, int muchDue) {
    Check.due(name + ", which", which, whichDue);
    Check.due(name + ", as much", much, muchDue);
  }

  private static void lure(LostAndTaxed x, int which, int much) {
    both("lure", x.lure(0), x.lure(1), which, much);
  }

  private static void mend(LostAndTaxed x, int which, int much) {
    both("mend", x.mend(0), x.mend(1), which, much);
  }

  private static void best(LostAndTaxed x, int i, int which, int much) {
    both("best", x.best(i, 0), x.best(i, 1), which, much);
  }

  private static void watch(LostAndTaxed x, int which, int much) {
    both("watch", x.watch(0), x.watch(1), which, much);
  }

  private static void missed(LostAndTaxed x, int which, int much) {
    both("missed", x.missed(0), x.missed(1), which, much);
  }

  /** "LIES: SIGNS (bits) that point where no STREET leads". */
  private static void liesWhereNoStreetLeads() {
    String town = "s0,1,1;s1,2,1;";
    lie(town, "g0,2,1;", 0);
    lie(town, "g0,2,2;", 1);
    lie(town, "g0,2,0;", 1);
    lie(town, "g0,2,3;", 1);
  }

  /** "or not on a shortest way to their T". */
  private static void liesAwayFromTheShortest() {
    // By 1 it is a minute shorter, as long, a minute longer than straight.
    lie("s0,1,1;s1,2,1;s0,2,3;", "g0,2,1;g0,2,2;", 2);
    lie("s0,1,1;s1,2,1;s0,2,2;", "g0,2,1;g0,2,2;", 0);
    lie("s0,1,1;s1,2,2;s0,2,2;", "g0,2,1;g0,2,2;", 1);
  }

  /** "(those at T itself do". */
  private static void liesAtTheAimItself() {
    String town = "s0,1,1;s1,2,1;";
    lie(town, "g1,1,0;g1,1,1;g1,1,2;g1,1,3;", 15);
    lie(town, "g3,3,3;", 1);
    lie("c1;", "g0,0,0;", 1);
  }

  /** "where no way leads: all do)". */
  private static void liesWhereNoWayLeads() {
    lie("s0,1,1;s2,3,1;", "g0,2,1;g0,3,1;g1,2,0;g2,0,3;g3,1,2;", 31);
    lie("", "g0,1,1;g0,1,2;", 3);
  }

  private static void liesOfNoneAndOfEight() {
    lie("s0,1,1;", "", 0);
    lie("s0,1,1;", "g0,1,1;".repeat(8), 0);
    lie("s0,1,1;", "g0,1,0;".repeat(8), 255);
    lie("s0,1,1;", "g0,1,1;".repeat(7) + "g0,1,0;", 128);
    lie("s0,1,1;", "g0,1,0;" + "g0,1,1;".repeat(7), 1);
  }

  /** "the one SIGN more (behind all others; whether there are 8 or not)". */
  private static void lureBehindNoneAndBehindEight() {
    // He goes 0 1; lured at 0 to 2 he goes back and forth: 15 wrong steps, and 15 right ones straight back.
    String town = "s0,1,1;s0,2,1;r1,0,0;w1,0,1;";
    for (int many = 0; many <= 8; many++) {
      LostAndTaxed x = Check.laid(town + "g0,1,1;".repeat(many));
      Check.due("no tax by " + many, x.tax(), 0);
      lure(x, 12, 15);
      Check.due("signs as many", x.count(2), many);
      Check.due("nothing to undo", x.count(5), 0);
    }
  }

  /** "to whichever by a STREET". */
  private static void lureByAStreetAlone() {
    LostAndTaxed x = Check.laid("c6;s0,3,1;s3,5,1;s3,4,1;s4,2,1;s2,1,1;g3,5,5;r1,0,0;w1,3,5;");
    Check.due("no tax", x.tax(), 0);
    // Lured at 3 to 0, he goes 3 0 3 0 .., to 4: 3 4 2 1 2 4 3 ..; 15 wrong steps either way.
    lure(x, 350, 15);
    // A sign to where no street leads would bring 3 0 3 4 2 1 2 4 3 0 .., 16 wrong steps, but is no lure.
    x.put(3, 5, 1);
    Check.due("more by no street", x.tax(), 16);
  }

  /** "none (by none more than now)". */
  private static void noLure() {
    lure(Check.laid("s0,1,1;w0,0,1;w2,0,1;w3,0,1;"), NONE, NONE);
    lure(Check.laid("w1,0,1;"), NONE, NONE);
    lure(Check.laid("c1;w1,0,0;"), NONE, NONE);
    lure(Check.laid("s0,1,1;s0,2,1;w1,0,0;"), NONE, NONE);
    // As much as now is not more: 0 1 0 1 .. whatever the signs say.
    lure(Check.laid("s0,1,1;w1,0,3;"), NONE, NONE);
    // Led astray already, as far as can be.
    lure(Check.laid("s0,1,1;s0,2,1;g0,1,2;r1,0,0;w1,0,1;"), NONE, NONE);
    // Nothing costs anything.
    lure(Check.laid("s0,1,1;s0,2,1;r0,0,0;w1,0,1;"), NONE, NONE);
    Check.due("BAD comes first", Check.laid("w1,0,1;").lure(2), BAD);
  }

  /** "of several the first (by CORNER, then T, then N)". */
  private static void lureOfSeveral() {
    String star = "s0,1,1;s0,2,1;s0,3,1;r1,0,0;";
    // At 0 for 3, to 1 or to 2: 15 wrong either way.
    lure(Check.laid(star + "g0,3,3;w1,0,3;"), 31, 15);
    // At 0 for 2 or for 3.
    lure(Check.laid(star + "g0,3,3;g0,2,2;w1,0,3;w1,0,2;"), 21, 15);
    // At 1 for 3 to 0, or at 2 for 3 to 1.
    lure(Check.laid("s0,1,1;s1,2,1;s2,3,1;r1,0,0;g1,3,2;w1,1,3;"), 130, 15);
    // A later one, if it is more: at 0 for 1 he who stands at 0 pays 15; at 0 for 3 two of them pay.
    lure(Check.laid(star + "g0,3,3;w1,0,1;w1,0,3;w1,0,3;"), 31, 30);
  }

  private static void lureOfTheLastCorner() {
    // At 7 to 6 rather than to 0; at 0 to 7 rather than to 1.
    lure(Check.laid("c8;s7,0,1;s7,6,1;r1,0,0;w1,7,0;"), 706, 15);
    lure(Check.laid("c8;s0,7,1;s0,1,1;r1,0,0;g0,1,1;w1,0,1;"), 17, 15);
  }

  /** "MEND .. none (there are none)". */
  private static void noMend() {
    LostAndTaxed x = Check.laid("s0,1,1;w1,0,1;");
    mend(x, NONE, NONE);
    Check.due("BAD comes first", x.mend(2), BAD);
    x.put(0, 0, 0);
    mend(x, 0, 0);
    x.undo();
    mend(x, NONE, NONE);
  }

  /** "the SIGN without which all TAX together is least". */
  private static void mendOfOneAndOfEight() {
    String town = "s0,1,1;s0,2,1;r1,0,0;w1,0,2;";
    // Without the only one more is paid: 0 1 0 2.
    mend(Check.laid(town + "g0,2,2;"), 0, 1);
    // Of eight the last one leads astray.
    mend(Check.laid(town + "g0,2,2;".repeat(7) + "g0,2,1;"), 7, 0);
    Check.due("tax as it is", Check.laid(town + "g0,2,2;".repeat(7) + "g0,2,1;").tax(), 15);
  }

  /** "of several the first". */
  private static void mendOfSeveral() {
    String town = "s0,1,1;s0,2,1;r1,0,0;w1,0,2;";
    mend(Check.laid(town + "g0,2,2;".repeat(8)), 0, 0);
    mend(Check.laid(town + "g0,2,1;".repeat(2)), 0, 15);
    // Without the first or the second nothing changes; the third is needed.
    mend(Check.laid(town + "g0,2,1;g0,2,1;g0,2,2;"), 0, 0);
  }

  /** "TELL for a WALKER: which aim TOLD makes his TAX least, of several the lowest". */
  private static void tellTheLowest() {
    // Who is there at once, or stays, pays nothing whatever is told.
    LostAndTaxed x = Check.laid("s0,1,1;w0,3,3;w2,2,3;w1,2,3;w3,1,1;");
    for (int i = 0; i < 4; i++) {
      x.tell(i, 2);
      best(x, i, 0, 0);
      Check.due("told as it was", x.walker(i, 3), 2);
    }
    // 3 2: right for 0, 1 and 2 alike.
    LostAndTaxed y = Check.laid("s0,1,1;s1,2,1;s2,3,1;w0,3,2;");
    best(y, 0, 0, 0);
    // Nothing costs anything: the lowest, though each step is wrong by it.
    best(Check.laid("s0,1,1;r0,0,0;w3,0,2;"), 0, 0, 0);
  }

  private static void tellTheLast() {
    LostAndTaxed x = Check.laid("c8;s0,7,1;r9,9,4;w0,0,7;w2,0,7;");
    best(x, 0, 7, 0);
    best(x, 1, 7, 4);
    x.tell(0, 0);
    best(x, 0, 7, 0);
    Check.due("by what is told", x.way(0, 3), 9);
  }

  /** "WATCH: the CORNER at which most wrong steps begin, of all WALKERS, of several the lowest". */
  private static void watchWhereNobodyGoesWrong() {
    watch(Check.laid("c1;w0,0,0;"), 0, 0);
    watch(Check.laid("c8;s6,7,1;w0,6,7;w2,7,6;"), 0, 0);
  }

  private static void watchTheLowestAndTheLast() {
    // 6 7 6 7 ..: 15 wrong steps at either.
    watch(Check.laid("c8;s6,7,1;w3,6,0;"), 6, 15);
    watch(Check.laid("c8;s6,7,1;w3,7,0;"), 6, 15);
    // Told 6, only those at 6 are wrong; told 7, only those at 7.
    LostAndTaxed x = Check.laid("c8;s6,7,1;w3,6,0;");
    x.tell(0, 7);
    watch(x, 7, 15);
    x.tell(0, 6);
    watch(x, 6, 15);
    // As many as there can be: four walkers.
    watch(Check.laid("c8;s6,7,1;w3,6,0;w3,6,0;w1,7,0;w1,7,0;r0,0,0;"), 6, 60);
  }

  /** "none (no STREETS)". */
  private static void noMissed() {
    LostAndTaxed x = Check.laid("c8;w0,0,7;g0,7,1;");
    missed(x, NONE, NONE);
    Check.due("BAD comes first", x.missed(2), BAD);
    missed(Check.laid("c8;s0,1,1;w0,0,7;"), 0, 0);
  }

  /** "(where no way leads, FAR counts as 200 for this, now and without it)". */
  private static void missedAsTwoHundred() {
    missed(Check.laid("s0,1,1;w0,0,1;"), 0, 199);
    missed(Check.laid("s0,1,20;w0,0,1;"), 0, 180);
    missed(Check.laid("s0,1,1;w0,0,1;w1,1,0;w2,0,1;w3,1,0;"), 0, 796);
    // Now none leads either: nothing more.
    missed(Check.laid("s0,1,1;w0,0,2;"), 0, 0);
    missed(Check.laid("s0,1,1;w0,0,2;w0,0,1;"), 0, 199);
    // 140 minutes now.
    missed(Check.laid("c8;s0,1,20;s1,2,20;s2,3,20;s3,4,20;s4,5,20;s5,6,20;s6,7,20;w0,0,7;"), 0, 60);
    // From where he is to where he is it is never far.
    missed(Check.laid("s0,1,1;w0,0,0;w0,3,3;"), 0, 0);
    // By the aims, not by those told.
    LostAndTaxed x = Check.laid("s0,1,1;s2,3,1;w0,2,3;");
    x.tell(0, 0);
    missed(x, 1, 199);
  }

  /** "of several the first". */
  private static void missedOfSeveral() {
    missed(Check.laid("s0,1,5;s1,2,5;w0,0,2;"), 0, 190);
    missed(Check.laid("s1,2,5;s0,1,5;w0,2,0;"), 0, 190);
    // Two ways as long: none is missed.
    missed(Check.laid("s0,1,5;s0,2,5;s1,3,5;s2,3,5;w0,0,3;"), 0, 0);
    // A minute shorter by 2: the second and the fourth are missed.
    missed(Check.laid("s0,1,5;s0,2,4;s1,3,5;s2,3,5;w0,0,3;"), 1, 1);
  }

  private static void missedTheTwelfth() {
    missed(Check.laid("c8;s0,1,1;s0,2,1;s0,3,1;s0,4,1;s0,5,1;s0,6,1;s1,2,1;s2,3,1;s3,4,1;s4,5,1;s5,6,1;s6,7,3;"
        + "w0,7,6;"), 11, 197);
  }
}
