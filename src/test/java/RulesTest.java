import java.lang.reflect.Modifier;
import java.nio.file.Files;
import java.nio.file.Path;
import java.util.ArrayList;
import java.util.List;
import java.util.Set;
import java.util.TreeSet;
import java.util.regex.Matcher;
import java.util.regex.Pattern;

/** The rules of LANGUAGE.md that can be seen in the source and in the class: face, words, sizes. */
public final class RulesTest {
  private static final Path SOURCE = Path.of("src/main/java/ModuleEngine.java");
  private static final Set<String> FACE = Set.of(
    "int feed(int,int,int,int,int)", "int module(int)", "int fault(int)", "int offer(int,int)", "int make(int)", "int argument(long)",
    "boolean call(int,int)", "int run(int)", "boolean give()", "boolean answer()", "int state(int)", "long value(int)", "int tier(int)",
    "int export(int,int,int)", "int memory(int,int,int)", "boolean poke(int,int,int,int)", "int table(int,int,int)", "long global(int,int)");

  public static void main(String[] args) throws Exception {
    face();
    String source = Files.readString(SOURCE).replaceAll("(?s)/\\*.*?\\*/", "").replaceAll("//.*", "");
    words(source);
    sizes(source.split("\n"));
    Kit.finish();
  }

  private static String signature(java.lang.reflect.Method m) {
    StringBuilder s = new StringBuilder(m.getReturnType() + " " + m.getName() + "(");
    for (Class<?> p : m.getParameterTypes()) s.append(s.charAt(s.length() - 1) == '(' ? "" : ",").append(p);
    return s.append(')').toString();
  }

  private static void face() {
    Set<String> found = new TreeSet<>();
    Set<String> names = new TreeSet<>();
    for (var m : ModuleEngine.class.getDeclaredMethods()) {
      if (Modifier.isPublic(m.getModifiers())) {
        found.add(signature(m));
        names.add(m.getName());
      }
    }
    Kit.due("the public methods " + found, found.equals(FACE), true);
    Kit.due("public and final", ModuleEngine.class.getModifiers(), Modifier.PUBLIC | Modifier.FINAL);
    Kit.due("one public constructor", ModuleEngine.class.getConstructors().length, 1);
    for (var m : ModuleEngine.class.getDeclaredMethods())
      if (!Modifier.isPublic(m.getModifiers())) Kit.due("private: " + m, Modifier.isPrivate(m.getModifiers()) && !names.contains(m.getName()), true);
    for (var f : ModuleEngine.class.getDeclaredFields()) Kit.due("private: " + f, Modifier.isPrivate(f.getModifiers()), true);
    int classes = 1;
    for (Class<?> c : ModuleEngine.class.getDeclaredClasses()) {
      classes++;
      Kit.due("static: " + c, Modifier.isStatic(c.getModifiers()) && !Modifier.isPublic(c.getModifiers()), true);
      int fields = 0;
      for (var f : c.getDeclaredFields()) {
        if (!Modifier.isStatic(f.getModifiers())) fields++;
        else Kit.due("final: " + f, Modifier.isFinal(f.getModifiers()), true);
      }
      Kit.due("fields of " + c + ": " + fields, fields <= 20, true);
      for (var m : c.getDeclaredMethods()) {
        Kit.due("parameters of " + m, m.getParameterCount() <= 7, true);
        Kit.due("another name: " + m, !names.contains(m.getName()), true);
      }
    }
    Kit.due("classes: " + classes, classes <= 12, true);
  }

  private static void words(String source) {
    String[] no = {"throw", "throws", "try", "catch", "synchronized", "assert", "while \\(true\\)", "double\\b", "float\\b", "->", "::", "hashCode", "Exact\\("};
    for (String word : no) {
      Matcher m = Pattern.compile(Character.isLetter(word.charAt(0)) ? "\\b" + word : word).matcher(source);
      Kit.due("no " + word, m.find(), false);
    }
    List<String> imports = new ArrayList<>();
    for (String line : source.split("\n")) if (line.startsWith("import")) imports.add(line);
    Kit.due("imports " + imports, imports.equals(List.of("import java.util.Arrays;")), true);
    for (int i = 0; i < source.length(); i++) if (source.charAt(i) > 126) Kit.due("character at " + i, source.charAt(i), 0);
  }

  private static void sizes(String[] lines) {
    Pattern head = Pattern.compile("^( {4}| {8})(?! |if |for |switch |while )[\\w\\[\\] ]+\\(.*\\) \\{$");
    for (int i = 0; i < lines.length; i++) {
      Matcher m = head.matcher(lines[i]);
      if (!m.matches()) continue;
      int end = i;
      while (!lines[end].equals(m.group(1) + "}")) end++;
      Kit.due(lines[i].trim() + " has " + (end - i + 1) + " lines", end - i + 1 <= 60, true);
    }
  }
}
