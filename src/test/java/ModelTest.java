import java.lang.reflect.Method;
import java.util.Arrays;
import java.util.Comparator;
import java.util.Random;

/** Runs of calls drawn by a fixed seed, answered by the class and by the model alike, all promises. */
public final class ModelTest {
  private static final int RUNS = 3000;
  private static final int MOST_CALLS = 512;

  public static void main(String[] args) throws Exception {
    Method[] calls = LostAndTaxed.class.getDeclaredMethods();
    calls = Arrays.stream(calls).filter(m -> java.lang.reflect.Modifier.isPublic(m.getModifiers()))
        .sorted(Comparator.comparing(Method::getName)).toArray(Method[]::new);
    Method[] same = new Method[calls.length];
    for (int k = 0; k < calls.length; k++) {
      same[k] = Model.class.getMethod(calls[k].getName(), calls[k].getParameterTypes());
    }
    for (int run = 0; run < RUNS; run++) {
      runOnce(run, calls, same);
    }
    Check.end();
  }

  private static void runOnce(int run, Method[] calls, Method[] same) throws Exception {
    Random random = new Random(run);
    LostAndTaxed x = new LostAndTaxed();
    Model model = new Model();
    int made = 0;
    if (run % 8 != 0) {
      made = typeAndLay(random, x, model);
    }
    int length = made + 100;
    while (made < length && made < MOST_CALLS) {
      int k = random.nextInt(calls.length);
      String name = calls[k].getName();
      if (random.nextInt(12) != 0 && (name.equals("write") || name.equals("wipe") || name.equals("lay"))) {
        continue;
      }
      Object[] numbers = numbers(random, name, calls[k].getParameterCount());
      int got = (Integer) calls[k].invoke(x, numbers);
      int want = (Integer) same[k].invoke(model, numbers);
      Check.due("run " + run + ", call " + made + ": " + name + Arrays.toString(numbers), got, want);
      made++;
    }
  }

  private static int typeAndLay(Random random, LostAndTaxed x, Model model) {
    String text = town(random);
    if (random.nextInt(4) == 0) {
      text = spoilt(random, text);
    }
    for (int k = 0; k < text.length(); k++) {
      Check.due("write", x.write(text.charAt(k)), model.write(text.charAt(k)));
    }
    Check.due("fault of " + text, x.fault(), model.fault());
    Check.due("lay of " + text, x.lay(), model.lay());
    return text.length() + 2;
  }

  private static String town(Random random) {
    StringBuilder text = new StringBuilder();
    int corners = 4;
    if (random.nextInt(6) != 0) {
      corners = 1 + random.nextInt(8);
      text.append('c').append(corners).append(';');
    }
    boolean[][] there = new boolean[8][8];
    int streets = random.nextInt(13);
    for (int k = 0; k < streets; k++) {
      int a = random.nextInt(corners);
      int b = random.nextInt(corners);
      if (a != b && !there[a][b]) {
        there[a][b] = true;
        there[b][a] = true;
        item(text, 's', a, b, 1 + random.nextInt(random.nextBoolean() ? 3 : 20));
      }
    }
    int aim = random.nextInt(corners);
    for (int k = random.nextInt(9); k > 0; k--) {
      item(text, 'g', random.nextInt(corners), random.nextBoolean() ? aim : random.nextInt(corners),
          random.nextInt(corners));
    }
    for (int k = 1 + random.nextInt(4); k > 0; k--) {
      item(text, 'w', random.nextBoolean() ? 1 : random.nextInt(4), random.nextInt(corners),
          random.nextBoolean() ? aim : random.nextInt(corners));
    }
    if (random.nextBoolean()) {
      item(text, 'r', random.nextInt(10), random.nextInt(10), random.nextInt(10));
    }
    return text.substring(0, Math.min(200, text.length()));
  }

  private static void item(StringBuilder text, char letter, int a, int b, int c) {
    text.append(letter).append(a).append(',').append(b).append(',').append(c).append(';');
  }

  private static String spoilt(Random random, String text) {
    StringBuilder other = new StringBuilder(text);
    int place = random.nextInt(text.length());
    char letter = "csgwr,;0123456789 x".charAt(random.nextInt(19));
    switch (random.nextInt(3)) {
      case 0 -> other.setCharAt(place, letter);
      case 1 -> other.deleteCharAt(place);
      default -> other.insert(place, letter);
    }
    return other.toString();
  }

  private static Object[] numbers(Random random, String name, int many) {
    Object[] numbers = new Object[many];
    for (int k = 0; k < many; k++) {
      numbers[k] = number(random, name, k);
    }
    return numbers;
  }

  private static int number(Random random, String name, int k) {
    if (random.nextInt(60) == 0) {
      return random.nextInt();
    }
    if (random.nextInt(40) == 0) {
      return random.nextInt(14) - 3;
    }
    if (name.equals("write")) {
      return 30 + random.nextInt(100);
    }
    if (k == 0 && name.equals("day")) {
      return random.nextInt(10010) - 5;
    }
    if (k == 0 && name.equals("paid")) {
      return random.nextBoolean() ? random.nextInt(60) : random.nextInt(1010) - 5;
    }
    if (name.equals("mean") && k == 1) {
      return random.nextInt(12);
    }
    if (name.equals("walk") && k == 1 || name.equals("seen") && k == 2) {
      return random.nextBoolean() ? random.nextInt(5) : random.nextInt(33);
    }
    return random.nextInt(random.nextBoolean() ? 2 : 7);
  }
}
