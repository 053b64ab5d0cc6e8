/** Counts the answers that are not the ones that are due, and ends a test by them. */
final class Check {
  private static int calls = 0;
  private static int wrong = 0;

  private Check() { }

  static void due(String call, long got, long want) {
    calls++;
    if (got != want) {
      wrong++;
      System.out.println(call + " answered " + got + ", due is " + want);
    }
  }

  static void holds(String what, boolean so) {
    due(what, so ? 1 : 0, 1);
  }

  /** Writes a text behind THE TEXT. */
  static void type(LostAndTaxed x, String text) {
    for (int k = 0; k < text.length(); k++) {
      x.write(text.charAt(k));
    }
  }

  /** A new object whose THE TEXT is this, not laid. */
  static LostAndTaxed typed(String text) {
    LostAndTaxed x = new LostAndTaxed();
    type(x, text);
    return x;
  }

  /** A new object on which this text is laid. */
  static LostAndTaxed laid(String text) {
    LostAndTaxed x = typed(text);
    holds("lay of " + text, x.lay() > 0);
    return x;
  }

  static int faultOf(String text) {
    return typed(text).fault();
  }

  static void end() {
    System.out.println(calls + " answers looked at, " + wrong + " not as due");
    if (wrong != 0 || calls == 0) {
      System.exit(1);
    }
  }
}
