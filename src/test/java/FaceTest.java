import java.lang.reflect.Constructor;
import java.lang.reflect.Field;
import java.lang.reflect.Method;
import java.lang.reflect.Modifier;
import java.nio.file.Files;
import java.nio.file.Path;
import java.util.Arrays;
import java.util.HashSet;
import java.util.Set;
import java.util.TreeSet;
import java.util.regex.Pattern;

/** The public face of the document, and what of LANGUAGE.md can be told from the class and its source. */
public final class FaceTest {
  private static final String[] FACE = {
    "write/1", "wipe/0", "fault/0", "lay/0", "far/2", "street/2", "sign/2", "walker/2", "walk/2", "way/2",
    "round/1", "tax/0", "put/3", "take/1", "tell/2", "undo/0", "lies/0", "lure/1", "mend/1", "best/2",
    "watch/1", "missed/1", "seen/3", "forget/0", "kinds/1", "paid/2", "mean/3", "day/2", "keep/0", "back/0",
    "count/1"};

  public static void main(String[] args) throws Exception {
    constants();
    methods();
    nothingElseIsSeen();
    nestedClasses();
    words();
    Check.end();
  }

  private static void constants() {
    Check.due("BAD", LostAndTaxed.BAD, -1);
    Check.due("NO", LostAndTaxed.NO, -2);
    Check.due("FULL", LostAndTaxed.FULL, -3);
    Check.due("NONE", LostAndTaxed.NONE, -4);
    Check.holds("the class is final", Modifier.isFinal(LostAndTaxed.class.getModifiers()));
    Check.due("one constructor", LostAndTaxed.class.getConstructors().length, 1);
  }

  private static void methods() {
    Set<String> found = new TreeSet<>();
    for (Method m : LostAndTaxed.class.getDeclaredMethods()) {
      if (Modifier.isPublic(m.getModifiers())) {
        found.add(m.getName() + "/" + m.getParameterCount());
        Check.holds(m.getName() + " answers an int", m.getReturnType() == int.class);
      }
    }
    Check.holds("the face is " + found, found.equals(new TreeSet<>(Arrays.asList(FACE))));
  }

  private static void nothingElseIsSeen() {
    Set<String> publicNames = new HashSet<>();
    for (String call : FACE) {
      publicNames.add(call.substring(0, call.indexOf('/')));
    }
    for (Method m : LostAndTaxed.class.getDeclaredMethods()) {
      boolean hidden = Modifier.isPrivate(m.getModifiers());
      Check.holds(m.getName() + " is public or private", hidden || Modifier.isPublic(m.getModifiers()));
      Check.holds(m.getName() + " bears no public name", !hidden || !publicNames.contains(m.getName()));
    }
    Set<String> open = Set.of("BAD", "NO", "FULL", "NONE");
    for (Field f : LostAndTaxed.class.getDeclaredFields()) {
      Check.holds(f.getName() + " is private", Modifier.isPrivate(f.getModifiers()) || open.contains(f.getName()));
      Check.holds(f.getName() + ", if static, is final",
          !Modifier.isStatic(f.getModifiers()) || Modifier.isFinal(f.getModifiers()));
    }
    for (Constructor<?> c : LostAndTaxed.class.getDeclaredConstructors()) {
      Check.due("a constructor without parameters", c.getParameterCount(), 0);
    }
  }

  private static void nestedClasses() {
    Class<?>[] nested = LostAndTaxed.class.getDeclaredClasses();
    Check.holds("twelve classes at most", nested.length + 1 <= 12);
    for (Class<?> c : nested) {
      Check.holds(c.getName() + " is static", Modifier.isStatic(c.getModifiers()));
      Check.holds(c.getName() + " is not public", !Modifier.isPublic(c.getModifiers()));
      Check.holds(c.getName() + " has some twenty fields at most", c.getDeclaredFields().length <= 20);
      for (Method m : c.getDeclaredMethods()) {
        Check.holds(m.getName() + " has seven parameters at most", m.getParameterCount() <= 7);
      }
    }
  }

  private static void words() throws Exception {
    String source = Files.readString(Path.of("src/main/java/LostAndTaxed.java"));
    String code = source.replaceAll("(?s)/\\*.*?\\*/", " ").replaceAll("//[^\\n]*", " ").replaceAll("\"[^\"]*\"", " ");
    String[] refused = {
      "\\bthrow", "\\btry\\b", "\\bcatch\\b", "\\bsynchronized\\b", "\\bassert\\b", "->", "::", "Exact\\b",
      "\\bpackage\\b", "\\bprotected\\b", "\\bSystem\\.(?!arraycopy)", "\\bThread\\b", "\\bRandom\\b",
      "\\bequals\\b", "\\bhashCode\\b", "\\btoString\\b", "\\bimport (?!java\\.util\\.Arrays;)"};
    for (String word : refused) {
      Check.holds("the source has no " + word, !Pattern.compile(word).matcher(code).find());
    }
  }
}
