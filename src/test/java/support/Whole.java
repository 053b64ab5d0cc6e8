import java.util.function.Supplier;

/** All that can be asked of an object, as one text: two objects in the same state have the same. */
final class Whole {
  private static final int PARTS = 6;

  private Whole() { }

  /** Each part has an object of its own, for an object is used for 512 calls at most. */
  static String of(Supplier<LostAndTaxed> maker) {
    StringBuilder all = new StringBuilder();
    for (int part = 0; part < PARTS; part++) {
      all.append('[').append(part).append(']');
      tellPart(part, maker.get(), all);
    }
    return all.toString();
  }

  private static void tellPart(int part, LostAndTaxed x, StringBuilder all) {
    switch (part) {
      case 0 -> tellTown(x, all);
      case 1 -> tellWalks(x, all);
      case 2 -> tellWhatWouldBe(x, all);
      case 3 -> tellWhatIsUndone(x, all);
      case 4 -> tellWhatIsKept(x, all);
      default -> tellText(x, all);
    }
  }

  private static void tellTown(LostAndTaxed x, StringBuilder all) {
    for (int what = 0; what < 8; what++) {
      add(all, x.count(what));
    }
    int corners = x.count(0);
    for (int a = 0; a < corners; a++) {
      for (int b = 0; b < corners; b++) {
        add(all, x.far(a, b));
        add(all, x.street(a, b));
      }
    }
    tellSignsAndTold(x, all);
  }

  private static void tellSignsAndTold(LostAndTaxed x, StringBuilder all) {
    int signs = x.count(2);
    for (int k = 0; k < signs; k++) {
      for (int what = 0; what < 3; what++) {
        add(all, x.sign(k, what));
      }
    }
    int walkers = x.count(3);
    for (int i = 0; i < walkers; i++) {
      add(all, x.walker(i, 3));
    }
  }

  private static void tellWalks(LostAndTaxed x, StringBuilder all) {
    int walkers = x.count(3);
    for (int i = 0; i < walkers; i++) {
      for (int what = 0; what < 4; what++) {
        add(all, x.walker(i, what));
      }
      for (int k = 0; k <= 30; k++) {
        add(all, x.walk(i, k));
      }
      for (int what = 0; what < 5; what++) {
        add(all, x.way(i, what));
      }
      add(all, x.round(i));
      add(all, x.kinds(i));
    }
    add(all, x.tax());
  }

  private static void tellWhatWouldBe(LostAndTaxed x, StringBuilder all) {
    add(all, x.lies());
    int walkers = x.count(3);
    int tax = x.tax();
    for (int what = 0; what < 2; what++) {
      add(all, x.lure(what));
      add(all, x.mend(what));
      add(all, x.watch(what));
      add(all, x.missed(what));
      add(all, x.paid(0, what));
      add(all, x.paid(Math.min(tax, 999), what));
      add(all, x.mean(5, 3, what));
      add(all, x.day(0, what));
      add(all, x.day(9999, what));
      for (int i = 0; i < walkers; i++) {
        add(all, x.best(i, what));
      }
    }
  }

  private static void tellWhatIsUndone(LostAndTaxed x, StringBuilder all) {
    for (int turn = 0; turn < 9; turn++) {
      add(all, x.undo());
      tellSignsAndTold(x, all);
    }
  }

  private static void tellWhatIsKept(LostAndTaxed x, StringBuilder all) {
    for (int turn = 0; turn < 3; turn++) {
      add(all, x.back());
      tellSignsAndTold(x, all);
    }
  }

  private static void tellText(LostAndTaxed x, StringBuilder all) {
    add(all, x.fault());
    add(all, x.lay());
    tellTown(x, all);
    add(all, x.wipe());
    add(all, x.forget());
  }

  private static void add(StringBuilder all, int answer) {
    all.append(answer).append(' ');
  }
}
