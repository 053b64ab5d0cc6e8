/** "What it is": the bounds of a TEXT, of its ITEMS and of their numbers, and FAULT, a sentence each. */
public final class TextEdgesTest {
  private static final int NO = -2, FULL = -3, NONE = -4;

  /** An ITEM of each letter that stands in a town of 4 CORNERS. */
  private static final String[] ITEMS = {"c4;", "s0,1,2;", "g0,1,2;", "w0,1,2;", "r0,1,2;"};

  public static void main(String[] args) {
    twoHundredLetters();
    itemsAtTheTwoHundredthLetter();
    oneOrTwoFigures();
    cutOff();
    partedAndEnded();
    tooManyOrTooFewNumbers();
    lettersOfItems();
    oneToEightCorners();
    fourCornersWithout();
    noOtherItemAheadOfCorners();
    cornersThereAre();
    streetsBetweenUnlike();
    noTwoStreetsBetweenTheSame();
    oneToTwentyMinutes();
    twelveStreets();
    signsWhereNoStreetLeads();
    eightSigns();
    fourKinds();
    fourWalkers();
    ratesFromNoughtToNine();
    ratesWithout();
    theLastRates();
    theFirstFault();
    aWalkerAtLeast();
    Check.end();
  }

  private static void fault(String text, int want) {
    Check.due("fault of " + text, Check.faultOf(text), want);
  }

  private static void faultIff(String text, boolean so) {
    fault(text, so ? 0 : NONE);
  }

  /** "letters (200 at most)". */
  private static void twoHundredLetters() {
    LostAndTaxed x = new LostAndTaxed();
    Check.due("nothing written yet", x.count(7), 0);
    for (int round = 0; round < 2; round++) {
      for (int k = 1; k <= 200; k++) {
        Check.due("letter no. " + k, x.write(k % 2 == 0 ? 32 : 126), k);
      }
      Check.due("letter no. 201", x.write(32), FULL);
      Check.due("letter no. 201 again", x.write(126), FULL);
      Check.due("200 letters", x.count(7), 200);
      Check.due("wipe", x.wipe(), 200);
      Check.due("wiped", x.count(7), 0);
    }
  }

  private static void itemsAtTheTwoHundredthLetter() {
    Check.due("200 letters", States.FULL_TEXT.length(), 200);
    fault(States.FULL_TEXT, NONE);
    LostAndTaxed x = Check.typed(States.FULL_TEXT);
    Check.due("lay of 200 letters", x.lay(), 8);
    int[] counts = {8, 12, 8, 4, 0, 0, 0, 200};
    for (int what = 0; what < counts.length; what++) {
      Check.due("count(" + what + ")", x.count(what), counts[what]);
    }
    // From 5 by 4 to 3, asking twice.
    Check.due("the last letters count: asking costs 7", x.way(2, 3), 14);
    // The 200th letter begins an ITEM, or is the last but one of it.
    fault("c04;" + "c4;".repeat(65) + "c", 199);
    fault("c4;".repeat(66) + "c4;", 198);
    // A walker behind the 200th letter is not written, so nothing is at fault, and nothing is laid.
    LostAndTaxed y = Check.typed("c04;c04;" + "c4;".repeat(64) + "w0,0,0;");
    Check.due("200 letters of it", y.count(7), 200);
    Check.due("no fault", y.fault(), NONE);
    Check.due("no walker", y.lay(), NO);
    fault("c4;".repeat(65) + "r1,2,3;", 195);
    fault("c4;".repeat(64) + "r1,2,34;", 192);
  }

  /** "numbers (one or two figures)". */
  private static void oneOrTwoFigures() {
    for (String item : ITEMS) {
      for (int at = 1; at < item.length(); at += 2) {
        String ahead = item.substring(0, at);
        String figure = item.substring(at, at + 1);
        String behind = item.substring(at + 1);
        fault(ahead + behind, 0);
        fault(ahead + figure + behind, NONE);
        fault(ahead + "0" + figure + behind, NONE);
        fault(ahead + "00" + figure + behind, 0);
        fault(ahead + "000" + figure + behind, 0);
        for (char letter = 32; letter <= 126; letter++) {
          if (letter < '0' || letter > '9') {
            fault(ahead + letter + behind, 0);
            fault(ahead + letter + figure + behind, 0);
          }
        }
      }
    }
    fault("s00,01,02;", NONE);
    fault("g00,01,02;w00,01,02;r00,01,02;", NONE);
    fault("s0,1,20;", NONE);
    fault("s0,1,020;", 0);
    Check.due("of two figures", Check.laid("c08;s07,00,19;w00,7,07;").street(0, 7), 19);
  }

  private static void cutOff() {
    for (String item : ITEMS) {
      for (int length = 1; length < item.length(); length++) {
        fault(item.substring(0, length), 0);
        fault("c4;" + item.substring(0, length), 3);
        fault(item.substring(0, length) + item, 0);
      }
      fault(item, NONE);
    }
  }

  /** "parted by , and a ; behind the last one". */
  private static void partedAndEnded() {
    for (String item : ITEMS) {
      for (int at = 2; at < item.length(); at += 2) {
        char due = item.charAt(at);
        for (char letter = 32; letter <= 126; letter++) {
          faultIff(item.substring(0, at) + letter + item.substring(at + 1), letter != due);
        }
        // Of two ; at the end the second begins an ITEM that is none.
        fault(item.substring(0, at) + due + item.substring(at), due == ';' ? item.length() : 0);
      }
    }
    fault(";", 0);
    fault(",", 0);
    fault(" ", 0);
  }

  private static void tooManyOrTooFewNumbers() {
    fault("c;", 0);
    fault("c4,4;", 0);
    fault("c4,4,4;", 0);
    for (char letter : "sgwr".toCharArray()) {
      fault(letter + ";", 0);
      fault(letter + "1;", 0);
      fault(letter + "1,2;", 0);
      fault(letter + "1,2,3;", NONE);
      fault(letter + "1,2,3,0;", 0);
    }
  }

  private static void lettersOfItems() {
    for (char letter = 32; letter <= 126; letter++) {
      faultIff(letter + "3;", letter != 'c');
      faultIff(letter + "1,2,3;", "sgwr".indexOf(letter) < 0);
      faultIff("" + letter, true);
    }
  }

  /** "cN there are N CORNERS (1 to 8 ..)". */
  private static void oneToEightCorners() {
    for (int n = 0; n <= 99; n++) {
      faultIff("c" + n + ";", n < 1 || n > 8);
      if (n <= 9) {
        faultIff("c0" + n + ";", n < 1 || n > 8);
      }
    }
    fault("c100;", 0);
    for (int n = 1; n <= 8; n++) {
      Check.due("lay of " + n + " corners", Check.typed("c" + n + ";w0,0,0;").lay(), n);
    }
  }

  /** "4 without". */
  private static void fourCornersWithout() {
    Check.due("lay without c", Check.typed("w0,0,0;").lay(), 4);
    faultIff("w0,3,3;", false);
    faultIff("w0,3,4;", true);
    LostAndTaxed x = Check.laid("w0,3,3;");
    Check.due("far(3, 3)", x.far(3, 3), 0);
    Check.due("far(4, 4)", x.far(4, 4), -1);
    // Not those of the town that is laid.
    LostAndTaxed y = Check.laid("c8;w0,0,0;");
    y.wipe();
    Check.type(y, "w0,0,0;");
    Check.due("lay without c behind 8", y.lay(), 4);
  }

  /** "no other ITEM ahead of it but c". */
  private static void noOtherItemAheadOfCorners() {
    for (String item : ITEMS) {
      fault(item + "c4;", item.startsWith("c") ? NONE : item.length());
      fault("c4;" + item + "c4;", item.startsWith("c") ? NONE : 3 + item.length());
    }
    fault("c1;c8;s0,7,1;", NONE);
    fault("c8;c1;s0,7,1;", 6);
    fault("c8;c9;", 3);
  }

  /** "CORNERS .. such as there are": 0, 1, .. up to one less than how many. */
  private static void cornersThereAre() {
    for (int n = 1; n <= 8; n++) {
      String town = "c" + n + ";";
      for (int bound = n - 1; bound <= n; bound++) {
        int due = bound < n ? NONE : 3;
        fault(town + "g" + bound + ",0,0;", due);
        fault(town + "g0," + bound + ",0;", due);
        fault(town + "g0,0," + bound + ";", due);
        fault(town + "w0," + bound + ",0;", due);
        fault(town + "w0,0," + bound + ";", due);
        fault(town + "s" + bound + ",0,1;", bound == 0 ? 3 : due);
        fault(town + "s0," + bound + ",1;", bound == 0 ? 3 : due);
      }
      fault(town + "g99,0,0;", 3);
      fault(town + "w0,0,99;", 3);
      fault(town + "s0,99,1;", 3);
    }
  }

  /** "a STREET between CORNERS A and B (unlike ..". */
  private static void streetsBetweenUnlike() {
    for (int a = 0; a < 8; a++) {
      for (int b = 0; b < 8; b++) {
        fault("c8;s" + a + "," + b + ",1;", a == b ? 3 : NONE);
      }
    }
  }

  /** ".. no two between the same)". */
  private static void noTwoStreetsBetweenTheSame() {
    for (int a = 0; a < 8; a++) {
      for (int b = 0; b < 8; b++) {
        if (a != b) {
          String first = "c8;s" + a + "," + b + ",1;";
          fault(first + "s" + a + "," + b + ",1;", 10);
          fault(first + "s" + b + "," + a + ",20;", 10);
          int other = (b + 1) % 8 == a ? (b + 2) % 8 : (b + 1) % 8;
          fault(first + "s" + a + "," + other + ",1;", NONE);
        }
      }
    }
  }

  /** "L (1 to 20) minutes long". */
  private static void oneToTwentyMinutes() {
    for (int minutes = 0; minutes <= 99; minutes++) {
      faultIff("s0,1," + minutes + ";", minutes < 1 || minutes > 20);
      if (minutes >= 1 && minutes <= 20) {
        LostAndTaxed x = Check.laid("s0,1," + minutes + ";w0,0,1;");
        Check.due("minutes", x.street(1, 0), minutes);
        Check.due("minutes walked", x.way(0, 1), minutes);
      }
    }
  }

  /** "12 at most". */
  private static void twelveStreets() {
    StringBuilder text = new StringBuilder("c8;");
    for (int k = 1; k <= 13; k++) {
      // 0 to 1, 0 to 2, .. 0 to 7, then 1 to 2, .. 1 to 7.
      String street = k <= 7 ? "s0," + k + ",1;" : "s1," + (k - 6) + ",1;";
      fault(text + street, k <= 12 ? NONE : text.length());
      if (k <= 12) {
        text.append(street);
        Check.due("streets", Check.laid(text + "w0,0,0;").count(1), k);
      }
    }
    Check.due("no street", Check.laid("w0,0,0;").count(1), 0);
    // Other ITEMS between do not start the count anew.
    fault(text + "w0,0,0;g0,0,0;s1,7,1;", text.length() + 14);
  }

  /** "to CORNER T go to N (no matter whether a STREET leads there)". */
  private static void signsWhereNoStreetLeads() {
    for (int c = 0; c < 4; c++) {
      for (int t = 0; t < 4; t++) {
        for (int n = 0; n < 4; n++) {
          fault("g" + c + "," + t + "," + n + ";", NONE);
        }
      }
    }
    LostAndTaxed x = Check.laid("g3,2,1;w0,0,0;");
    Check.due("corner", x.sign(0, 0), 3);
    Check.due("to", x.sign(0, 1), 2);
    Check.due("by", x.sign(0, 2), 1);
  }

  /** "8 at most". */
  private static void eightSigns() {
    for (int many = 0; many <= 9; many++) {
      String text = "g0,1,2;".repeat(many) + "w0,0,0;";
      fault(text, many <= 8 ? NONE : 56);
      Check.due("lay of " + many + " signs", Check.typed(text).lay(), many <= 8 ? 4 : NO);
      if (many <= 8) {
        Check.due("signs", Check.laid(text).count(2), many);
      }
    }
    fault("g0,1,2;w0,0,0;".repeat(4) + "g0,1,2;".repeat(4) + "r1,1,1;" + "g0,1,2;", 56 + 28 + 7);
  }

  /** "KIND K (0 NATIVE, 1 STRANGER, 2 HONEST, 3 STUBBORN)". */
  private static void fourKinds() {
    for (int kind = 0; kind <= 99; kind++) {
      faultIff("w" + kind + ",0,1;", kind > 3);
      if (kind <= 3) {
        Check.due("kind", Check.laid("w" + kind + ",0,1;").walker(0, 0), kind);
      }
    }
  }

  /** "4 at most". */
  private static void fourWalkers() {
    for (int many = 0; many <= 5; many++) {
      String text = "w0,1,2;".repeat(many);
      fault(text, many <= 4 ? NONE : 28);
      Check.due("lay of " + many + " walkers", Check.typed(text).lay(), many >= 1 && many <= 4 ? 4 : NO);
      if (many >= 1 && many <= 4) {
        Check.due("walkers", Check.laid(text).count(3), many);
      }
    }
    fault("w0,0,0;w1,0,0;g0,0,0;w2,0,0;w3,0,0;r1,1,1;w0,0,0;", 42);
  }

  /** "(0 to 9 each ..". */
  private static void ratesFromNoughtToNine() {
    for (int rate = 0; rate <= 99; rate++) {
      faultIff("r" + rate + ",0,0;", rate > 9);
      faultIff("r0," + rate + ",0;", rate > 9);
      faultIff("r0,0," + rate + ";", rate > 9);
      if (rate <= 9) {
        // 0 1 0 1 ..: 30 wrong steps, 29 of them straight back. The honest one asks once.
        taxes("r" + rate + ",0,0;", 30 * rate, 0);
        taxes("r0," + rate + ",0;", 29 * rate, 0);
        taxes("r0,0," + rate + ";", 0, rate);
      }
    }
  }

  private static void taxes(String rates, int stubborn, int honest) {
    LostAndTaxed x = Check.laid("s0,1,1;w3,0,2;w2,0,1;" + rates);
    Check.due("by " + rates, x.way(0, 3), stubborn);
    Check.due("asking by " + rates, x.way(1, 3), honest);
    Check.due("together by " + rates, x.tax(), stubborn + honest);
  }

  /** "2, 3, 1 without". */
  private static void ratesWithout() {
    taxes("", 30 * 2 + 29 * 3, 1);
    // Not those of the town that was laid, nor those of a text that was not.
    LostAndTaxed x = Check.laid("s0,1,1;w2,0,1;r9,9,9;");
    x.wipe();
    Check.type(x, "r8,8,8;w");
    Check.due("lay", x.lay(), NO);
    Check.due("rates of what is laid", x.tax(), 9);
    x.wipe();
    Check.type(x, "s0,1,1;w2,0,1;");
    Check.due("lay", x.lay(), 4);
    Check.due("rates without", x.tax(), 1);
  }

  /** "the last one". */
  private static void theLastRates() {
    taxes("r9,9,9;r4,5,6;", 30 * 4 + 29 * 5, 6);
    taxes("r9,9,9;r0,0,0;", 0, 0);
    taxes("r1,1,1;r9,9,9;r2,3,1;", 30 * 2 + 29 * 3, 1);
    LostAndTaxed x = Check.laid("r9,9,9;s0,1,1;r8,8,8;w2,0,1;r5,5,5;g0,0,0;");
    Check.due("the last of three", x.tax(), 5);
  }

  /** "FAULT: the place of the first letter of the first ITEM that is not so." */
  private static void theFirstFault() {
    fault("c9;c9;", 0);
    fault("c8;c9;x", 3);
    fault("w0,0,0;w9,0,0;c3;", 7);
    fault("s0,1,1;s0,1,1;s0,2,0;", 7);
    fault("s0,1,1;s0,2,0;s0,1,1;", 7);
    // What stands behind a fault does not matter, and it is told again and again.
    LostAndTaxed x = Check.typed("c2;q;");
    Check.due("fault", x.fault(), 3);
    Check.due("fault again", x.fault(), 3);
    Check.type(x, "w0,0,0;");
    Check.due("fault as before", x.fault(), 3);
    x.wipe();
    Check.due("wiped: none", x.fault(), NONE);
    Check.due("of nothing written yet: none", new LostAndTaxed().fault(), NONE);
    // An ITEM half written is at fault until its last letter.
    LostAndTaxed y = new LostAndTaxed();
    String text = "c8;w03,07,00;";
    for (int k = 0; k < text.length(); k++) {
      y.write(text.charAt(k));
      Check.due("behind " + text.substring(0, k + 1), y.fault(), k < 2 ? 0 : k == 2 || k == 12 ? NONE : 3);
    }
  }

  /** "LAID is a TEXT without FAULT, of a WALKER at least (NO else". */
  private static void aWalkerAtLeast() {
    Check.due("of nothing", new LostAndTaxed().lay(), NO);
    Check.due("of corners alone", Check.typed("c8;").lay(), NO);
    Check.due("of all but a walker", Check.typed("c8;s0,1,1;g0,1,1;r0,0,0;").lay(), NO);
    Check.due("of a walker alone", Check.typed("w0,0,0;").lay(), 4);
    Check.due("of a walker, then a fault", Check.typed("w0,0,0;c4;").lay(), NO);
    Check.due("of a walker half written", Check.typed("w0,0,0").lay(), NO);
    LostAndTaxed x = Check.typed("w0,0,0;");
    Check.due("lay", x.lay(), 4);
    Check.due("lay again", x.lay(), 4);
  }
}
