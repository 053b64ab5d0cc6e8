import java.util.Map;
import java.util.function.Supplier;
import java.util.function.ToIntFunction;

/**
 * "NO: not as things stand. NONE: there is none. FULL. Of several the first; nothing changes then": each NO, NONE and
 * FULL that a promise names, and that the object is as it was behind it. BAD is looked at by ArgumentsTest.
 */
public final class RefusedTest {
  private static final int BAD = -1, NO = -2, FULL = -3, NONE = -4;

  public static void main(String[] args) {
    wholeTellsStatesApart();
    fullText();
    noFault();
    notLaid();
    noWayAndNoStreet();
    noRound();
    fullOfSigns();
    nothingUndone();
    noLureMendOrMissed();
    fullOfSeen();
    paidByNone();
    fullOfKept();
    nothingKept();
    badAheadOfTheOthers();
    questionsChangeNothing();
    Check.end();
  }

  private static void refused(String name, Supplier<LostAndTaxed> maker, ToIntFunction<LostAndTaxed> call, int want) {
    Check.due(name, call.applyAsInt(maker.get()), want);
    unchanged(name, maker, call);
  }

  private static void unchanged(String name, Supplier<LostAndTaxed> maker, ToIntFunction<LostAndTaxed> call) {
    String behind = Whole.of(() -> {
      LostAndTaxed x = maker.get();
      call.applyAsInt(x);
      return x;
    });
    Check.holds(name + " changes nothing", behind.equals(Whole.of(maker)));
  }

  /** If what is told of an object left something out, "changes nothing" would say nothing of it. */
  private static void wholeTellsStatesApart() {
    changed("write", x -> x.write('w'));
    changed("wipe", LostAndTaxed::wipe);
    changed("put", x -> x.put(0, 0, 0));
    changed("take", x -> x.take(2));
    changed("tell", x -> x.tell(0, 4));
    changed("tell of what is told", x -> x.tell(0, 5));
    changed("undo", LostAndTaxed::undo);
    changed("seen", x -> x.seen(3, 1, 1));
    changed("forget", LostAndTaxed::forget);
    changed("keep", LostAndTaxed::keep);
    changed("back", LostAndTaxed::back);
    changed("lay", LostAndTaxed::lay);
  }

  private static void changed(String name, ToIntFunction<LostAndTaxed> call) {
    String behind = Whole.of(() -> {
      LostAndTaxed x = States.midway();
      call.applyAsInt(x);
      return x;
    });
    Check.holds(name + " is seen", !behind.equals(Whole.of(States::midway)));
  }

  private static void fullText() {
    for (int letter : new int[] {32, ';', 'w', 126}) {
      refused("write(" + letter + ") behind 200", States::full, x -> x.write(letter), FULL);
    }
  }

  private static void noFault() {
    refused("no fault of nothing", LostAndTaxed::new, LostAndTaxed::fault, NONE);
    refused("no fault of 200 letters", States::full, LostAndTaxed::fault, NONE);
    refused("no fault of a text not laid", States::midway, LostAndTaxed::fault, NONE);
    unchanged("a fault", () -> Check.typed("c2;s0,1,9;g0,0,0;w0,1,1;r0,0,0;s0,1,8;"), LostAndTaxed::fault);
  }

  private static void notLaid() {
    refused("lay of nothing", LostAndTaxed::new, LostAndTaxed::lay, NO);
    refused("lay of nothing, once wiped", States::bare, LostAndTaxed::lay, NO);
    for (String text : new String[] {"c5;", "c3;s0,1,9;g0,0,2;r9,9,9;", "w0,0,0", "w0,0,0;w", "c2;w0,0,1;w0,0,2;",
        "c3;w0,0,1;s0,1,0;", " ", "w0,0,0; "}) {
      refused("lay of '" + text + "'", () -> over(States.midway(), text), LostAndTaxed::lay, NO);
    }
  }

  private static LostAndTaxed over(LostAndTaxed x, String text) {
    x.wipe();
    Check.type(x, text);
    return x;
  }

  private static void noWayAndNoStreet() {
    refused("no way", States::apart, x -> x.far(1, 4), NONE);
    refused("no way, the other way", States::apart, x -> x.far(4, 0), NONE);
    refused("no street", States::midway, x -> x.street(0, 5), NONE);
    refused("no street to itself", States::full, x -> x.street(7, 7), NONE);
    refused("no street of one corner", States::bare, x -> x.street(0, 0), NONE);
  }

  private static void noRound() {
    refused("no round, aim reached", States::midway, x -> x.round(0), NONE);
    refused("no round, there at once", States::bare, x -> x.round(0), NONE);
    refused("no round, no way", States::apart, x -> x.round(1), NONE);
  }

  private static void fullOfSigns() {
    refused("put behind 8 laid", States::full, x -> x.put(0, 0, 0), FULL);
    refused("put behind 8 laid, greatest", States::full, x -> x.put(7, 7, 7), FULL);
    refused("put behind 8 put", RefusedTest::eightPut, x -> x.put(5, 5, 5), FULL);
  }

  private static LostAndTaxed eightPut() {
    LostAndTaxed x = new LostAndTaxed();
    for (int k = 3; k < 8; k++) {
      Check.due("put no. " + (k + 1), x.put(k - 3, 5, k - 2), k + 1);
    }
    return x;
  }

  private static void nothingUndone() {
    refused("nothing to undo at first", LostAndTaxed::new, LostAndTaxed::undo, NO);
    refused("nothing to undo behind lay", States::bare, LostAndTaxed::undo, NO);
    refused("nothing more to undo", () -> undone(States.full(), 8), LostAndTaxed::undo, NO);
    refused("nothing to undo behind back", RefusedTest::goneBack, LostAndTaxed::undo, NO);
  }

  private static LostAndTaxed undone(LostAndTaxed x, int times) {
    for (int k = 0; k < times; k++) {
      x.undo();
    }
    return x;
  }

  private static LostAndTaxed goneBack() {
    LostAndTaxed x = States.midway();
    x.back();
    return x;
  }

  private static void noLureMendOrMissed() {
    for (int what = 0; what < 2; what++) {
      int w = what;
      refused("no lure(" + w + ")", States::bare, x -> x.lure(w), NONE);
      refused("no mend(" + w + ")", States::bare, x -> x.mend(w), NONE);
      refused("no missed(" + w + ")", States::bare, x -> x.missed(w), NONE);
      refused("no mend(" + w + ") once all are taken", RefusedTest::allTaken, x -> x.mend(w), NONE);
      refused("no lure(" + w + ") beyond what is paid", States::apart, x -> x.lure(w), NONE);
    }
  }

  private static LostAndTaxed allTaken() {
    LostAndTaxed x = new LostAndTaxed();
    x.take(0);
    x.take(0);
    x.take(0);
    return x;
  }

  private static void fullOfSeen() {
    refused("seen behind 8", States::full, x -> x.seen(0, 0, 0), FULL);
    refused("seen behind 8, greatest", States::full, x -> x.seen(3, 7, 30), FULL);
    refused("seen behind 8, once more the same", States::full, x -> x.seen(0, 0, 30), FULL);
  }

  private static void paidByNone() {
    refused("paid(999, 1)", States::midway, x -> x.paid(999, 1), NONE);
    refused("paid(999, 0)", States::midway, x -> x.paid(999, 0), 0);
    refused("paid(1, 1)", States::bare, x -> x.paid(1, 1), NONE);
  }

  private static void fullOfKept() {
    refused("keep behind 2", States::full, LostAndTaxed::keep, FULL);
    refused("keep behind 2 alike", () -> kept(2), LostAndTaxed::keep, FULL);
  }

  private static LostAndTaxed kept(int times) {
    LostAndTaxed x = new LostAndTaxed();
    for (int k = 0; k < times; k++) {
      x.keep();
    }
    return x;
  }

  private static void nothingKept() {
    refused("nothing kept at first", LostAndTaxed::new, LostAndTaxed::back, NO);
    refused("nothing kept behind lay", States::bare, LostAndTaxed::back, NO);
    refused("nothing more kept", RefusedTest::changedBehindBack, LostAndTaxed::back, NO);
  }

  /** A back that is refused leaves what can be undone. */
  private static LostAndTaxed changedBehindBack() {
    LostAndTaxed x = goneBack();
    x.put(1, 1, 1);
    x.tell(2, 2);
    return x;
  }

  private static void badAheadOfTheOthers() {
    refused("write", States::full, x -> x.write(127), BAD);
    refused("put", States::full, x -> x.put(0, 0, 8), BAD);
    refused("seen", States::full, x -> x.seen(0, 0, 31), BAD);
    refused("lure", States::bare, x -> x.lure(2), BAD);
    refused("mend", States::bare, x -> x.mend(2), BAD);
    refused("missed", States::bare, x -> x.missed(2), BAD);
    refused("paid", States::bare, x -> x.paid(999, 2), BAD);
    refused("street to itself, where no corner is", States::bare, x -> x.street(1, 1), BAD);
    refused("far to itself, where no corner is", States::bare, x -> x.far(1, 1), BAD);
  }

  private static void questionsChangeNothing() {
    for (Map.Entry<String, Supplier<LostAndTaxed>> state : States.all().entrySet()) {
      String name = state.getKey() + ": ";
      Supplier<LostAndTaxed> maker = state.getValue();
      unchanged(name + "fault", maker, LostAndTaxed::fault);
      unchanged(name + "far", maker, x -> x.far(0, 0));
      unchanged(name + "sign", maker, x -> x.sign(0, 0));
      unchanged(name + "walker", maker, x -> x.walker(0, 3));
      unchanged(name + "walk", maker, x -> x.walk(0, 30));
      unchanged(name + "way", maker, x -> x.way(0, 3));
      unchanged(name + "round", maker, x -> x.round(0));
      unchanged(name + "tax", maker, LostAndTaxed::tax);
      unchanged(name + "lies", maker, LostAndTaxed::lies);
      unchanged(name + "lure", maker, x -> x.lure(1));
      unchanged(name + "mend", maker, x -> x.mend(1));
      unchanged(name + "best", maker, x -> x.best(0, 0));
      unchanged(name + "watch", maker, x -> x.watch(0));
      unchanged(name + "missed", maker, x -> x.missed(0));
      unchanged(name + "kinds", maker, x -> x.kinds(0));
      unchanged(name + "paid", maker, x -> x.paid(0, 0));
      unchanged(name + "mean", maker, x -> x.mean(5, 5, 0));
      unchanged(name + "day", maker, x -> x.day(9999, 0));
      unchanged(name + "count", maker, x -> x.count(7));
    }
  }
}
