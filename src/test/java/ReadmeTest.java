import java.lang.reflect.Method;
import java.lang.reflect.Modifier;
import java.nio.file.DirectoryStream;
import java.nio.file.Files;
import java.nio.file.Path;
import java.util.ArrayList;
import java.util.Arrays;
import java.util.List;
import java.util.TreeSet;
import java.util.regex.Matcher;
import java.util.regex.Pattern;

/** README.md: its examples answer what they say, and it leaves out no call, no answer below 0 and no test. */
public final class ReadmeTest {
  private static final Pattern MADE = Pattern.compile("LostAndTaxed town = new LostAndTaxed\\(\\);");
  private static final Pattern TYPED = Pattern.compile("for \\(char letter : \"([^\"]*)\"\\.toCharArray\\(\\)\\) \\{");
  private static final Pattern LETTER = Pattern.compile("    town\\.write\\(letter\\);");
  private static final Pattern CALLED =
      Pattern.compile("town\\.([a-z]+)\\(([0-9, ]*)\\); +// (-?[0-9]+|BAD|NO|FULL|NONE)\\b.*");
  private static final Pattern ROW = Pattern.compile("\\| `([a-z]+)\\(([a-z, ]*)\\)` \\| .* \\|([A-Z, ]*)\\|");
  private static final Pattern BELOW = Pattern.compile("\\| `([A-Z]+)` \\| (-[0-9]+) \\| .+ \\|");

  private static List<String> lines;

  public static void main(String[] args) throws Exception {
    lines = Files.readAllLines(Path.of("README.md"));
    examplesAnswerAsTheySay();
    everyCallHasARow();
    rowsNameWhatTheDocumentNames();
    everyAnswerBelowZeroIsTold();
    everyTestIsNamed();
    Check.end();
  }

  private static void examplesAnswerAsTheySay() throws Exception {
    LostAndTaxed town = null;
    boolean inside = false;
    int calls = 0;
    for (String line : lines) {
      if (line.startsWith("```")) {
        inside = line.equals("```java");
        continue;
      }
      if (!inside) {
        continue;
      }
      Matcher typed = TYPED.matcher(line);
      Matcher called = CALLED.matcher(line);
      if (MADE.matcher(line).matches()) {
        town = new LostAndTaxed();
      } else if (typed.matches() && town != null) {
        Check.type(town, typed.group(1));
      } else if (called.matches() && town != null) {
        Check.due("README: " + line, answer(town, called.group(1), called.group(2)), number(called.group(3)));
        calls++;
      } else {
        Check.holds("README has a line that this test cannot run: " + line,
            LETTER.matcher(line).matches() || line.equals("}"));
      }
    }
    Check.holds("README has examples", calls >= 10);
  }

  private static int answer(LostAndTaxed town, String name, String given) throws Exception {
    String[] parts = given.isEmpty() ? new String[0] : given.split(", ");
    Class<?>[] types = new Class<?>[parts.length];
    Object[] numbers = new Object[parts.length];
    Arrays.fill(types, int.class);
    for (int k = 0; k < parts.length; k++) {
      numbers[k] = Integer.valueOf(parts[k]);
    }
    return (Integer) LostAndTaxed.class.getMethod(name, types).invoke(town, numbers);
  }

  private static int number(String told) throws Exception {
    boolean isName = Character.isUpperCase(told.charAt(0));
    return isName ? LostAndTaxed.class.getField(told).getInt(null) : Integer.parseInt(told);
  }

  private static void everyCallHasARow() {
    List<String> rows = new ArrayList<>();
    for (String line : lines) {
      Matcher row = ROW.matcher(line);
      if (row.matches()) {
        int given = row.group(2).isEmpty() ? 0 : row.group(2).split(", ").length;
        rows.add(row.group(1) + "/" + given);
      }
    }
    int calls = 0;
    for (Method method : LostAndTaxed.class.getDeclaredMethods()) {
      if (Modifier.isPublic(method.getModifiers())) {
        calls++;
        String call = method.getName() + "/" + method.getParameterCount();
        Check.holds("README has a row for " + call, rows.contains(call));
      }
    }
    Check.due("rows of calls in README", rows.size(), calls);
  }

  /** BAD, NO, FULL and NONE in a call's row are those that its promise names. */
  private static void rowsNameWhatTheDocumentNames() throws Exception {
    List<String> document = Files.readAllLines(Path.of("../shared/DOC.md"));
    for (String line : lines) {
      Matcher row = ROW.matcher(line);
      if (row.matches()) {
        TreeSet<String> told = belowZeroIn(row.group(3));
        Check.holds("README tells of " + row.group(1) + " " + told + ", its promise " + promised(document, row.group(1)),
            told.equals(promised(document, row.group(1))));
      }
    }
  }

  private static TreeSet<String> promised(List<String> document, String name) {
    for (String line : document) {
      if (line.startsWith("`int " + name + "(")) {
        return belowZeroIn(line);
      }
    }
    return new TreeSet<>(List.of("no promise"));
  }

  private static TreeSet<String> belowZeroIn(String text) {
    TreeSet<String> found = new TreeSet<>();
    Matcher words = Pattern.compile("\\b(BAD|NO|FULL|NONE)\\b").matcher(text);
    while (words.find()) {
      found.add(words.group(1));
    }
    return found;
  }

  private static void everyAnswerBelowZeroIsTold() throws Exception {
    TreeSet<String> told = new TreeSet<>();
    for (String line : lines) {
      Matcher row = BELOW.matcher(line);
      if (row.matches()) {
        told.add(row.group(1));
        Check.due("README's " + row.group(1), Integer.parseInt(row.group(2)), number(row.group(1)));
      }
    }
    Check.holds("README tells what BAD, NO, FULL and NONE mean", told.equals(new TreeSet<>(List.of("BAD", "NO", "FULL", "NONE"))));
  }

  private static void everyTestIsNamed() throws Exception {
    int tests = 0;
    try (DirectoryStream<Path> files = Files.newDirectoryStream(Path.of("src/test/java"), "*Test.java")) {
      for (Path file : files) {
        String name = file.getFileName().toString().replace(".java", "");
        tests++;
        boolean named = false;
        for (String line : lines) {
          named |= line.startsWith("| " + name + " |");
        }
        Check.holds("README names " + name, named);
      }
    }
    Check.holds("tests are found", tests > 0);
  }
}
