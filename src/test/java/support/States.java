import java.util.LinkedHashMap;
import java.util.Map;
import java.util.function.Supplier;

/** Objects in states at the edges of the document, made anew each time. */
final class States {
  /** 200 letters: 8 corners, 12 streets, 8 signs, 4 walkers, and rates of which the last ones count. */
  static final String FULL_TEXT = "c8;"
      + "s0,1,1;s1,2,2;s2,3,3;s3,4,4;s4,5,5;s5,6,6;s6,7,7;s7,0,8;s0,4,9;s1,5,9;s2,6,9;s3,7,9;"
      + "g0,6,1;g1,6,5;g5,6,4;g4,6,0;g2,6,6;g3,7,0;g0,7,7;g7,3,6;"
      + "w0,0,6;w1,0,6;w2,5,3;w3,1,7;"
      + "r1,1,1;r2,2,2;r3,3,3;r09,8,7;";

  private States() { }

  static Map<String, Supplier<LostAndTaxed>> all() {
    Map<String, Supplier<LostAndTaxed>> all = new LinkedHashMap<>();
    all.put("new", LostAndTaxed::new);
    all.put("bare", States::bare);
    all.put("apart", States::apart);
    all.put("midway", States::midway);
    all.put("full", States::full);
    return all;
  }

  /** As little as can be laid: nothing there yet of all else. */
  static LostAndTaxed bare() {
    LostAndTaxed x = Check.laid("c1;w1,0,0;");
    x.wipe();
    return x;
  }

  /** Corners that no street leads to, and a text at fault. */
  static LostAndTaxed apart() {
    LostAndTaxed x = Check.laid("c5;s0,1,20;g0,4,4;w1,0,4;w0,1,4;w2,3,4;");
    Check.type(x, "c5;");
    return x;
  }

  /** Some of everything, nothing full. */
  static LostAndTaxed midway() {
    LostAndTaxed x = Check.typed("c3;s0,1,2;g0,2,1;w2,1,0;");
    x.put(0, 5, 4);
    x.tell(1, 3);
    x.keep();
    x.take(1);
    x.tell(3, 2);
    x.seen(1, 4, 1);
    x.seen(2, 0, 30);
    return x;
  }

  /** As many as may be of everything. */
  static LostAndTaxed full() {
    LostAndTaxed x = Check.laid(FULL_TEXT);
    x.keep();
    for (int k = 0; k < 8; k++) {
      x.tell(k % 4, k);
      x.seen(k % 4, k, 30 - k);
    }
    x.keep();
    return x;
  }
}
