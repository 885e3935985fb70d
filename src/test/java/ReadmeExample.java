import java.lang.reflect.Method;
import java.nio.file.Files;
import java.nio.file.Path;
import java.util.HashMap;
import java.util.Map;
import java.util.TreeSet;
import java.util.regex.Matcher;
import java.util.regex.Pattern;

/** Runs the example of README.md as it stands there, so that what it tells stays true. */
public final class ReadmeExample {
  private static final Pattern BLOCK = Pattern.compile("(?s)```java\n(.*?)```");
  private static final Pattern MADE = Pattern.compile("FloodCells desk = new FloodCells\\(\\);");
  private static final Pattern CALL = Pattern.compile("(?:int (\\w+) = )?desk\\.(\\w+)\\(([^)]*)\\);\\s*// (-?\\d+|true|false)(?::.*)?");

  private static Method methodOf(String name) {
    for (Method m : FloodCells.class.getMethods()) {
      if (m.getDeclaringClass() == FloodCells.class && m.getName().equals(name)) return m;
    }
    throw new IllegalStateException("the class has no " + name);
  }

  private static Object[] arguments(String text, Map<String, Integer> names) {
    if (text.isBlank()) return new Object[0];
    String[] words = text.split(",\\s*");
    Object[] values = new Object[words.length];
    for (int i = 0; i < words.length; i++) {
      values[i] = names.containsKey(words[i]) ? names.get(words[i]) : (Object) Integer.valueOf(words[i]);
    }
    return values;
  }

  public static void main(String[] args) throws Exception {
    Matcher block = BLOCK.matcher(Files.readString(Path.of("README.md")));
    if (!block.find()) throw new IllegalStateException("README.md has no example");
    Map<String, Integer> names = new HashMap<>();
    names.put("FloodCells.NONE", FloodCells.NONE);
    TreeSet<String> used = new TreeSet<>();
    FloodCells desk = null;
    int wrong = 0;
    for (String line : block.group(1).split("\n")) {
      if (MADE.matcher(line).matches()) { desk = new FloodCells(); continue; }
      Matcher call = CALL.matcher(line);
      if (!call.matches() || desk == null) { wrong++; System.out.println("not understood: " + line); continue; }
      Object got = methodOf(call.group(2)).invoke(desk, arguments(call.group(3), names));
      used.add(call.group(2));
      if (call.group(1) != null) names.put(call.group(1), (Integer) got);
      if (!got.toString().equals(call.group(4))) { wrong++; System.out.println(line + " answered " + got); }
    }
    for (Method m : FloodCells.class.getDeclaredMethods()) {
      if (java.lang.reflect.Modifier.isPublic(m.getModifiers()) && !used.contains(m.getName())) {
        wrong++;
        System.out.println("the example doesn't use " + m.getName());
      }
    }
    System.out.println(used.size() + " methods shown in README.md, " + wrong + " wrong");
    if (wrong != 0) System.exit(1);
  }
}
