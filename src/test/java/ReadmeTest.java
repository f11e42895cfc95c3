import java.lang.reflect.Method;
import java.lang.reflect.Modifier;
import java.nio.file.Files;
import java.nio.file.Path;
import java.util.ArrayList;
import java.util.List;
import java.util.Set;
import java.util.TreeSet;
import java.util.regex.Matcher;
import java.util.regex.Pattern;
import java.util.stream.Stream;

/** Does the calls that README.md shows, in their order: each has to answer what stands behind it. */
public final class ReadmeTest {
  private static final Path README = Path.of("README.md");
  private static final Path TESTS = Path.of("src/test/java");
  private static final String NEW = "ModuleEngine engine = new ModuleEngine();";
  private static final Pattern CALL = Pattern.compile("engine\\.(\\w+)\\(([^()]*)\\); *// (-?\\d+|true|false)(: .*)?");
  private static final Pattern BYTES = Pattern.compile("((?:\\d+ ?)+)( .*)?");

  private static ModuleEngine engine;
  private static int calls;
  private static final Set<String> shown = new TreeSet<>();
  private static final List<Integer> fed = new ArrayList<>();
  private static final List<Integer> listed = new ArrayList<>();

  public static void main(String[] args) throws Exception {
    String text = Files.readString(README);
    String block = "";
    int number = 0;
    for (String row : text.split("\n")) {
      number++;
      if (row.startsWith("```")) block = block.isEmpty() ? row.substring(3) : "";
      else if (block.equals("java")) call("README.md:" + number, row);
      else if (block.equals("text")) list("README.md:" + number, row);
    }
    allShown(text);
    allTestsNamed(text);
    Kit.finish();
  }

  /** A row of a module's bytes, with words behind them. */
  private static void list(String where, String row) {
    Matcher m = BYTES.matcher(row);
    Kit.due(where + ": bytes of a module", m.matches(), true);
    if (m.matches()) for (String b : m.group(1).trim().split(" ")) listed.add(Integer.parseInt(b));
  }

  private static void call(String where, String row) throws Exception {
    if (row.equals(NEW)) {
      engine = new ModuleEngine();
      calls = 0;
      fed.clear();
      return;
    }
    Matcher m = CALL.matcher(row);
    Kit.due(where + ": a call with its answer", m.matches() && engine != null, true);
    if (!m.matches() || engine == null) return;
    String name = m.group(1);
    List<Long> numbers = numbers(m.group(2));
    if (name.equals("feed")) for (long n : numbers) for (int shift = 24; shift >= 0; shift -= 8) fed.add((int) (n >> shift) & 255);
    if (name.equals("module")) bytesAreListed(where, numbers.get(0));
    Object due = m.group(3).matches("true|false") ? (Object) Boolean.valueOf(m.group(3)) : (Object) Long.valueOf(m.group(3));
    Object got = answer(name, numbers);
    Kit.due(where + ": " + name + "(" + m.group(2) + ") is " + got + ", and " + due + " in README.md; that they are the same", got.equals(due), true);
    calls++;
    Kit.due(where + ": at most 512 calls of one object", calls <= 512, true);
    shown.add(name);
  }

  private static List<Long> numbers(String row) {
    List<Long> out = new ArrayList<>();
    if (!row.isBlank()) for (String n : row.split(", ")) out.add(Long.decode(n));
    return out;
  }

  /** The bytes that README.md lists ahead of a module() are those that were fed. */
  private static void bytesAreListed(String where, long n) {
    if (!listed.isEmpty()) {
      Kit.due(where + ": how many bytes are listed", listed.size(), n);
      Kit.due(where + ": the listed bytes are fed", fed.size() >= n && fed.subList(0, (int) n).equals(listed), true);
    }
    listed.clear();
    fed.clear();
  }

  private static Object answer(String name, List<Long> numbers) throws Exception {
    for (Method m : ModuleEngine.class.getMethods()) {
      if (!m.getName().equals(name) || m.getParameterCount() != numbers.size()) continue;
      Object[] row = new Object[numbers.size()];
      for (int i = 0; i < row.length; i++) {
        if (m.getParameterTypes()[i] == long.class) row[i] = numbers.get(i);
        else row[i] = numbers.get(i).intValue();
      }
      Object got = m.invoke(engine, row);
      return got instanceof Integer i ? (Object) i.longValue() : got;
    }
    return "no such method";
  }

  private static void allShown(String text) {
    for (Method m : ModuleEngine.class.getDeclaredMethods()) {
      if (!Modifier.isPublic(m.getModifiers())) continue;
      Kit.due(m.getName() + " is shown", shown.contains(m.getName()), true);
      Kit.due(m.getName() + " is in the table of all calls", text.contains("\n| `" + m.getName() + "("), true);
    }
  }

  private static void allTestsNamed(String text) throws Exception {
    Set<String> tests = new TreeSet<>();
    try (Stream<Path> files = Files.list(TESTS)) {
      files.map(f -> f.getFileName().toString()).filter(f -> f.endsWith("Test.java")).forEach(f -> tests.add(f.replace(".java", "")));
    }
    Set<String> named = new TreeSet<>();
    Matcher m = Pattern.compile("\n\\| `(\\w+Test)`").matcher(text);
    while (m.find()) named.add(m.group(1));
    Kit.due("README.md names the tests " + tests, named.equals(tests), true);
    Kit.due("README.md says how to run them", text.contains("`.ci/run`"), true);
  }
}
