import java.lang.reflect.Method;
import java.util.Map;
import java.util.function.Supplier;

/**
 * "BAD: a number is none that is told (CORNERS, STREETS, SIGNS, WALKERS: such as there are) .. nothing changes then":
 * each number of each call at the last one allowed and the first that is not, on either side, and at the least and
 * the greatest int, with the call's other numbers at theirs; behind each BAD the object is as it was.
 */
public final class ArgumentsTest {
  private static final int BAD = -1;

  private static final int CORNER = -1, SIGN = -2, WALKER = -3;

  /** What each number of a call may be: from and to, or those of which there are so many. */
  private record Call(String name, int... bounds) { }

  private static final Call[] CALLS = {
    new Call("write", 32, 126),
    new Call("far", CORNER, CORNER),
    new Call("street", CORNER, CORNER),
    new Call("sign", SIGN, 0, 2),
    new Call("walker", WALKER, 0, 3),
    new Call("walk", WALKER, 0, 30),
    new Call("way", WALKER, 0, 4),
    new Call("round", WALKER),
    new Call("put", CORNER, CORNER, CORNER),
    new Call("take", SIGN),
    new Call("tell", WALKER, CORNER),
    new Call("lure", 0, 1),
    new Call("mend", 0, 1),
    new Call("best", WALKER, 0, 1),
    new Call("watch", 0, 1),
    new Call("missed", 0, 1),
    new Call("seen", WALKER, CORNER, 0, 30),
    new Call("kinds", WALKER),
    new Call("paid", 0, 999, 0, 1),
    new Call("mean", 0, 5, 0, 10, 0, 1),
    new Call("day", 0, 9999, 0, 1),
    new Call("count", 0, 7),
  };

  public static void main(String[] args) throws Exception {
    everyCallWithNumbersIsHere();
    for (Map.Entry<String, Supplier<LostAndTaxed>> state : States.all().entrySet()) {
      String untouched = Whole.of(state.getValue());
      for (Call call : CALLS) {
        atItsBounds(state.getKey(), state.getValue(), untouched, call);
      }
    }
    Check.end();
  }

  private static void everyCallWithNumbersIsHere() {
    int withNumbers = 0;
    for (Method m : LostAndTaxed.class.getMethods()) {
      if (m.getDeclaringClass() == LostAndTaxed.class && m.getParameterCount() > 0) {
        withNumbers++;
      }
    }
    Check.due("calls with numbers", CALLS.length, withNumbers);
  }

  private static void atItsBounds(String state, Supplier<LostAndTaxed> maker, String untouched, Call call)
      throws Exception {
    Method method = methodOf(call.name);
    int many = method.getParameterCount();
    int[][] bounds = boundsIn(maker.get(), call, many);
    int combinations = 1;
    for (int k = 0; k < many; k++) {
      combinations *= 6;
    }
    for (int c = 0; c < combinations; c++) {
      Object[] numbers = new Object[many];
      boolean allowed = true;
      int rest = c;
      for (int k = 0; k < many; k++) {
        int low = bounds[k][0];
        int high = bounds[k][1];
        int number = new int[] {low, high, low - 1, high + 1, Integer.MIN_VALUE, Integer.MAX_VALUE}[rest % 6];
        rest /= 6;
        numbers[k] = number;
        allowed &= number >= low && number <= high;
      }
      String name = state + ": " + call.name + java.util.Arrays.toString(numbers);
      int answer = (Integer) method.invoke(maker.get(), numbers);
      if (allowed) {
        Check.holds(name + " is not BAD", answer != BAD);
      } else {
        Check.due(name, answer, BAD);
        Check.holds(name + " changes nothing", untouched.equals(Whole.of(() -> after(maker, method, numbers))));
      }
    }
  }

  private static LostAndTaxed after(Supplier<LostAndTaxed> maker, Method method, Object[] numbers) {
    LostAndTaxed x = maker.get();
    try {
      method.invoke(x, numbers);
    } catch (ReflectiveOperationException e) {
      throw new IllegalStateException(method.getName() + java.util.Arrays.toString(numbers) + " threw", e);
    }
    return x;
  }

  /** Where there are none of a kind, from 0 to -1: no number is allowed. */
  private static int[][] boundsIn(LostAndTaxed x, Call call, int many) {
    int[][] bounds = new int[many][];
    int at = 0;
    for (int k = 0; k < many; k++) {
      switch (call.bounds[at]) {
        case CORNER -> bounds[k] = new int[] {0, x.count(0) - 1};
        case SIGN -> bounds[k] = new int[] {0, x.count(2) - 1};
        case WALKER -> bounds[k] = new int[] {0, x.count(3) - 1};
        default -> {
          bounds[k] = new int[] {call.bounds[at], call.bounds[at + 1]};
          at++;
        }
      }
      at++;
    }
    return bounds;
  }

  private static Method methodOf(String name) {
    for (Method m : LostAndTaxed.class.getMethods()) {
      if (m.getDeclaringClass() == LostAndTaxed.class && m.getName().equals(name)) {
        return m;
      }
    }
    throw new IllegalStateException("no " + name);
  }
}
