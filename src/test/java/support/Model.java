import java.math.BigInteger;
import java.util.ArrayDeque;
import java.util.ArrayList;
import java.util.Deque;
import java.util.List;
import java.util.regex.Matcher;
import java.util.regex.Pattern;

/**
 * The document once more, told another way: whole states are kept rather than changes, ways are
 * found by going along all streets again and again, texts are read by a pattern. It was written with the class and
 * reads the document the same way, so that it finds slips in the code, not misreadings.
 */
public final class Model {
  private static final int BAD = -1, NO = -2, FULL = -3, NONE = -4;
  private static final Pattern ITEM = Pattern.compile("([csgwr])(\\d\\d?(?:,\\d\\d?)*);");

  /** What put, take and tell change. */
  private record State(List<List<Integer>> signs, List<Integer> told) {
    State withSign(int c, int t, int n) {
      List<List<Integer>> more = new ArrayList<>(signs);
      more.add(List.of(c, t, n));
      return new State(List.copyOf(more), told);
    }

    State withoutSign(int k) {
      List<List<Integer>> fewer = new ArrayList<>(signs);
      fewer.remove(k);
      return new State(List.copyOf(fewer), told);
    }

    State telling(int i, int c) {
      List<Integer> other = new ArrayList<>(told);
      other.set(i, c);
      return new State(signs, List.copyOf(other));
    }
  }

  private record Street(int a, int b, int minutes) { }

  private record Walker(int kind, int from, int aim) { }

  private record Seen(int i, int c, int k) { }

  private record Walked(List<Integer> places, List<Integer> wrongAt, int minutes, int tax, boolean comes) { }

  /** A text that was read. */
  private static final class Plan {
    int corners = 4;
    final List<Street> streets = new ArrayList<>();
    final List<Walker> walkers = new ArrayList<>();
    List<List<Integer>> signs = new ArrayList<>();
    int[] rates = {2, 3, 1};
    int fault = NONE;

    State start() {
      List<Integer> told = new ArrayList<>();
      for (Walker w : walkers) {
        told.add(w.aim);
      }
      return new State(List.copyOf(signs), List.copyOf(told));
    }

    int length(int a, int b) {
      for (Street s : streets) {
        if (s.a == a && s.b == b || s.a == b && s.b == a) {
          return s.minutes;
        }
      }
      return 0;
    }

    Plan without(int s) {
      Plan p = new Plan();
      p.corners = corners;
      p.streets.addAll(streets);
      p.streets.remove(s);
      return p;
    }

    /** By going again and again along all streets. */
    int far(int a, int b) {
      int[] best = new int[corners];
      java.util.Arrays.fill(best, 100000);
      best[b] = 0;
      for (int again = 0; again < corners; again++) {
        for (Street s : streets) {
          best[s.a] = Math.min(best[s.a], best[s.b] + s.minutes);
          best[s.b] = Math.min(best[s.b], best[s.a] + s.minutes);
        }
      }
      return best[a] >= 100000 ? NONE : best[a];
    }
  }

  private final StringBuilder text = new StringBuilder();
  private Plan plan;
  private State state;
  private final Deque<State> undone = new ArrayDeque<>();
  private final Deque<State> kept = new ArrayDeque<>();
  private final List<Seen> seen = new ArrayList<>();

  public Model() {
    plan = read("c6;s0,1,3;s1,2,4;s2,3,2;s0,4,5;s4,3,6;s1,4,1;s3,5,2;"
        + "g1,5,4;g4,5,3;g2,5,1;w0,0,5;w1,0,5;w2,2,0;w3,0,5;");
    state = plan.start();
  }

  private static Plan read(String text) {
    Plan p = new Plan();
    Matcher m = ITEM.matcher(text);
    int at = 0;
    while (at < text.length()) {
      m.region(at, text.length());
      if (!m.lookingAt() || !add(p, m.group(1).charAt(0), m.group(2).split(","))) {
        p.fault = at;
        return p;
      }
      at = m.end();
    }
    return p;
  }

  private static boolean add(Plan p, char letter, String[] figures) {
    int[] v = new int[figures.length];
    for (int k = 0; k < v.length; k++) {
      v[k] = Integer.parseInt(figures[k]);
    }
    if (v.length != (letter == 'c' ? 1 : 3)) {
      return false;
    }
    boolean first = p.rates.length == 3 && p.streets.isEmpty() && p.signs.isEmpty() && p.walkers.isEmpty();
    switch (letter) {
      case 'c':
        if (!first || v[0] < 1 || v[0] > 8) {
          return false;
        }
        p.corners = v[0];
        return true;
      case 's':
        if (v[0] >= p.corners || v[1] >= p.corners || v[0] == v[1] || p.length(v[0], v[1]) != 0
            || v[2] < 1 || v[2] > 20 || p.streets.size() == 12) {
          return false;
        }
        return p.streets.add(new Street(v[0], v[1], v[2]));
      case 'g':
        return Math.max(v[0], Math.max(v[1], v[2])) < p.corners && p.signs.size() < 8
            && p.signs.add(List.of(v[0], v[1], v[2]));
      case 'w':
        return v[0] <= 3 && v[1] < p.corners && v[2] < p.corners && p.walkers.size() < 4
            && p.walkers.add(new Walker(v[0], v[1], v[2]));
      default:
        if (v[0] > 9 || v[1] > 9 || v[2] > 9) {
          return false;
        }
        // A fourth number tells that rates were told, so that no c may follow.
        p.rates = new int[] {v[0], v[1], v[2], 1};
        return true;
    }
  }

  private boolean corner(int c) {
    return c >= 0 && c < plan.corners;
  }

  private boolean who(int i) {
    return i >= 0 && i < plan.walkers.size();
  }

  private boolean posted(int k) {
    return k >= 0 && k < state.signs.size();
  }

  private boolean wrong(int from, int to, int told) {
    int whole = plan.far(from, told);
    return whole == NONE || whole != plan.length(from, to) + plan.far(to, told);
  }

  private List<Integer> around(int here) {
    List<Integer> found = new ArrayList<>();
    for (int c = 0; c < plan.corners; c++) {
      if (plan.length(here, c) > 0) {
        found.add(c);
      }
    }
    return found;
  }

  /** Where one goes from here, or here itself: he stays. */
  private int onward(List<List<Integer>> signs, int kind, int here, int came, int aim) {
    List<Integer> around = around(here);
    if (around.isEmpty()) {
      return here;
    }
    if (kind == 0 || kind == 2) {
      for (int c : around) {
        if (!wrong(here, c, aim)) {
          return c;
        }
      }
      return here;
    }
    if (kind == 1) {
      int shown = here;
      for (List<Integer> s : signs) {
        if (s.get(0) == here && s.get(1) == aim) {
          shown = s.get(2);
        }
      }
      if (around.contains(shown)) {
        return shown;
      }
    }
    List<Integer> fresh = new ArrayList<>(around);
    fresh.remove(Integer.valueOf(came));
    if (fresh.isEmpty()) {
      return came;
    }
    return fresh.get(kind == 1 ? 0 : fresh.size() - 1);
  }

  private Walked go(List<List<Integer>> signs, int kind, int from, int aim, int told) {
    List<Integer> places = new ArrayList<>(List.of(from));
    List<Integer> wrongAt = new ArrayList<>();
    int minutes = 0;
    int tax = 0;
    int came = -1;
    int here = from;
    while (here != aim && places.size() <= 30) {
      int next = onward(signs, kind, here, came, aim);
      if (next == here) {
        break;
      }
      if (kind == 2) {
        minutes++;
        tax += plan.rates[2];
      }
      minutes += plan.length(here, next);
      if (wrong(here, next, told)) {
        wrongAt.add(here);
        tax += plan.rates[0];
        if (next == came) {
          tax += plan.rates[1];
        }
      }
      came = here;
      here = next;
      places.add(here);
    }
    return new Walked(places, wrongAt, minutes, tax, here == aim);
  }

  private Walked go(State s, int i) {
    Walker w = plan.walkers.get(i);
    return go(s.signs, w.kind, w.from, w.aim, s.told.get(i));
  }

  private int all(State s) {
    int sum = 0;
    for (int i = 0; i < plan.walkers.size(); i++) {
      sum += go(s, i).tax;
    }
    return sum;
  }

  private void change(State next) {
    undone.push(state);
    if (undone.size() > 8) {
      undone.removeLast();
    }
    state = next;
  }

  public int write(int letter) {
    if (letter < ' ' || letter > '~') {
      return BAD;
    }
    if (text.length() == 200) {
      return FULL;
    }
    return text.append((char) letter).length();
  }

  public int wipe() {
    int was = text.length();
    text.setLength(0);
    return was;
  }

  public int fault() {
    return read(text.toString()).fault;
  }

  public int lay() {
    Plan p = read(text.toString());
    if (p.fault != NONE || p.walkers.isEmpty()) {
      return NO;
    }
    plan = p;
    state = p.start();
    undone.clear();
    kept.clear();
    seen.clear();
    return p.corners;
  }

  public int far(int a, int b) {
    return corner(a) && corner(b) ? plan.far(a, b) : BAD;
  }

  public int street(int a, int b) {
    if (!corner(a) || !corner(b)) {
      return BAD;
    }
    return plan.length(a, b) == 0 ? NONE : plan.length(a, b);
  }

  public int sign(int k, int what) {
    return posted(k) && what >= 0 && what <= 2 ? state.signs.get(k).get(what) : BAD;
  }

  public int walker(int i, int what) {
    if (!who(i) || what < 0 || what > 3) {
      return BAD;
    }
    Walker w = plan.walkers.get(i);
    return List.of(w.kind, w.from, w.aim, state.told.get(i)).get(what);
  }

  public int walk(int i, int k) {
    if (!who(i) || k < 0 || k > 30) {
      return BAD;
    }
    List<Integer> places = go(state, i).places;
    return places.get(Math.min(k, places.size() - 1));
  }

  public int way(int i, int what) {
    if (!who(i) || what < 0 || what > 4) {
      return BAD;
    }
    Walked w = go(state, i);
    return List.of(w.places.size() - 1, w.minutes, w.wrongAt.size(), w.tax, w.comes ? 1 : 0).get(what);
  }

  public int round(int i) {
    if (!who(i)) {
      return BAD;
    }
    List<Integer> places = go(state, i).places;
    List<Integer> met = new ArrayList<>();
    for (int k = 1; k < places.size(); k++) {
      int step = places.get(k - 1) * 10 + places.get(k);
      if (met.contains(step)) {
        return k;
      }
      met.add(step);
    }
    return NONE;
  }

  public int tax() {
    return all(state);
  }

  public int put(int c, int t, int n) {
    if (!corner(c) || !corner(t) || !corner(n)) {
      return BAD;
    }
    if (state.signs.size() == 8) {
      return FULL;
    }
    change(state.withSign(c, t, n));
    return state.signs.size();
  }

  public int take(int k) {
    if (!posted(k)) {
      return BAD;
    }
    change(state.withoutSign(k));
    return state.signs.size();
  }

  public int tell(int i, int c) {
    if (!who(i) || !corner(c)) {
      return BAD;
    }
    int was = state.told.get(i);
    change(state.telling(i, c));
    return was;
  }

  public int undo() {
    if (undone.isEmpty()) {
      return NO;
    }
    state = undone.pop();
    return undone.size();
  }

  public int lies() {
    int bits = 0;
    for (int k = 0; k < state.signs.size(); k++) {
      List<Integer> s = state.signs.get(k);
      boolean leads = plan.length(s.get(0), s.get(2)) > 0;
      if (!leads || wrong(s.get(0), s.get(2), s.get(1))) {
        bits += 1 << k;
      }
    }
    return bits;
  }

  public int lure(int what) {
    if (what != 0 && what != 1) {
      return BAD;
    }
    int most = tax();
    int which = NONE;
    for (int three = 0; three < 1000; three++) {
      int c = three / 100;
      int t = three / 10 % 10;
      int n = three % 10;
      if (corner(c) && corner(t) && corner(n) && plan.length(c, n) > 0) {
        int sum = all(state.withSign(c, t, n));
        if (sum > most) {
          most = sum;
          which = three;
        }
      }
    }
    return which == NONE || what == 0 ? which : most;
  }

  public int mend(int what) {
    if (what != 0 && what != 1) {
      return BAD;
    }
    int which = NONE;
    int least = Integer.MAX_VALUE;
    for (int k = 0; k < state.signs.size(); k++) {
      int sum = all(state.withoutSign(k));
      if (sum < least) {
        least = sum;
        which = k;
      }
    }
    return which == NONE || what == 0 ? which : least;
  }

  public int best(int i, int what) {
    if (!who(i) || what != 0 && what != 1) {
      return BAD;
    }
    int which = 0;
    for (int c = 1; c < plan.corners; c++) {
      if (go(state.telling(i, c), i).tax < go(state.telling(i, which), i).tax) {
        which = c;
      }
    }
    return what == 0 ? which : go(state.telling(i, which), i).tax;
  }

  public int watch(int what) {
    if (what != 0 && what != 1) {
      return BAD;
    }
    List<Integer> begun = new ArrayList<>();
    for (int i = 0; i < plan.walkers.size(); i++) {
      begun.addAll(go(state, i).wrongAt);
    }
    int which = 0;
    for (int c = 1; c < plan.corners; c++) {
      if (java.util.Collections.frequency(begun, c) > java.util.Collections.frequency(begun, which)) {
        which = c;
      }
    }
    return what == 0 ? which : java.util.Collections.frequency(begun, which);
  }

  private int minutes(Plan p) {
    int sum = 0;
    for (Walker w : plan.walkers) {
      int far = p.far(w.from, w.aim);
      sum += far == NONE ? 200 : far;
    }
    return sum;
  }

  public int missed(int what) {
    if (what != 0 && what != 1) {
      return BAD;
    }
    int which = NONE;
    int most = -1;
    for (int s = 0; s < plan.streets.size(); s++) {
      int more = minutes(plan.without(s)) - minutes(plan);
      if (more > most) {
        most = more;
        which = s;
      }
    }
    return which == NONE || what == 0 ? which : most;
  }

  public int seen(int i, int c, int k) {
    if (!who(i) || !corner(c) || k < 0 || k > 30) {
      return BAD;
    }
    if (seen.size() == 8) {
      return FULL;
    }
    seen.add(new Seen(i, c, k));
    return seen.size();
  }

  public int forget() {
    int was = seen.size();
    seen.clear();
    return was;
  }

  public int kinds(int i) {
    if (!who(i)) {
      return BAD;
    }
    int bits = 15;
    for (int kind = 0; kind < 4; kind++) {
      List<Integer> places = go(state.signs, kind, plan.walkers.get(i).from, plan.walkers.get(i).aim, 0).places;
      for (Seen s : seen) {
        if (s.i == i && places.get(Math.min(s.k, places.size() - 1)) != s.c) {
          bits &= ~(1 << kind);
        }
      }
    }
    return bits;
  }

  public int paid(int v, int what) {
    if (v < 0 || v > 999 || what != 0 && what != 1) {
      return BAD;
    }
    List<Integer> sets = new ArrayList<>();
    for (int set = 0; set < 1 << plan.walkers.size(); set++) {
      int sum = 0;
      for (int i = 0; i < plan.walkers.size(); i++) {
        sum += (set & 1 << i) != 0 ? go(state, i).tax : 0;
      }
      if (sum == v) {
        sets.add(set);
      }
    }
    return what == 0 ? sets.size() : sets.isEmpty() ? NONE : sets.get(0);
  }

  public int mean(int n, int x, int part) {
    if (n < 0 || n > 5 || x < 0 || x > 10 || part != 0 && part != 1) {
      return BAD;
    }
    int first = Math.min(n, state.signs.size());
    BigInteger above = BigInteger.valueOf(weighed(state, 0, first, x));
    BigInteger below = BigInteger.TEN.pow(first);
    BigInteger by = above.gcd(below);
    return (part == 0 ? above : below).divide(by).intValueExact();
  }

  /** All tax, times ten for each sign from k on, by the chance that each is turned. */
  private long weighed(State s, int k, int first, int x) {
    if (k == first) {
      return all(s);
    }
    List<Integer> old = s.signs.get(k);
    List<Integer> around = around(old.get(0));
    around.remove(old.get(2));
    int next = around.isEmpty() ? old.get(2) : around.get(0);
    List<List<Integer>> turned = new ArrayList<>(s.signs);
    turned.set(k, List.of(old.get(0), old.get(1), next));
    return x * weighed(new State(turned, s.told), k + 1, first, x) + (10 - x) * weighed(s, k + 1, first, x);
  }

  public int day(int z, int what) {
    if (z < 0 || z > 9999 || what != 0 && what != 1) {
      return BAD;
    }
    int sum = 0;
    int come = 0;
    for (int i = 0; i < plan.walkers.size(); i++) {
      BigInteger q = BigInteger.valueOf(7919L * z + 6151L * i + 1);
      int draw = q.multiply(q).mod(BigInteger.valueOf(65521)).intValueExact();
      int aim = draw / 8 % plan.corners;
      Walked w = go(state.signs, plan.walkers.get(i).kind, draw % plan.corners, aim, aim);
      sum += w.tax;
      come += w.comes ? 1 : 0;
    }
    return what == 0 ? sum : come;
  }

  public int keep() {
    if (kept.size() == 2) {
      return FULL;
    }
    kept.push(state);
    return kept.size();
  }

  public int back() {
    if (kept.isEmpty()) {
      return NO;
    }
    state = kept.pop();
    undone.clear();
    return kept.size();
  }

  public int count(int what) {
    if (what < 0 || what > 7) {
      return BAD;
    }
    return List.of(plan.corners, plan.streets.size(), state.signs.size(), plan.walkers.size(),
        seen.size(), undone.size(), kept.size(), text.length()).get(what);
  }
}
