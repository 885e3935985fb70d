import java.lang.reflect.Array;
import java.lang.reflect.Field;
import java.lang.reflect.Method;
import java.lang.reflect.Modifier;
import java.nio.file.Files;
import java.nio.file.Path;
import java.util.Arrays;
import java.util.IdentityHashMap;
import java.util.Map;
import java.util.TreeMap;
import java.util.TreeSet;
import java.util.regex.Matcher;
import java.util.regex.Pattern;

/** The document's face, what of LANGUAGE.md can be seen by a program, and the room that an object and its calls take. */
public final class FaceAndRules {
  private static int wrong = 0;

  private static final String[] FACE = {
      "int stretch(int,int,int)", "int cell(int,int,int,int)", "int dike(int,int,int,int,int)", "boolean breach(int,int,int)",
      "boolean flows(int,int)", "int pit(int)", "int send(int,int)", "boolean tell(int,int,int)", "int known(int)", "int worst()",
      "int road(int,int,int,int)", "int go(int)", "boolean people(int,int)", "int told(int,int)", "int crest(int,int)",
      "int wet(int)", "int foretold(int,int)", "int loss()", "int best(int)", "int leave(int)", "int soonest()", "int bars(int)",
      "int bar(int,int,int)", "int count(int)"};

  private static void must(boolean holds, String what) {
    if (!holds) { wrong++; System.out.println("not so: " + what); }
  }

  private static String told(Method m) {
    StringBuilder s = new StringBuilder(m.getReturnType().getName()).append(' ').append(m.getName()).append('(');
    for (int i = 0; i < m.getParameterCount(); i++) s.append(i == 0 ? "" : ",").append(m.getParameterTypes()[i].getName());
    return s.append(')').toString();
  }

  private static void face() {
    Class<?> c = FloodCells.class;
    must(Modifier.isPublic(c.getModifiers()) && Modifier.isFinal(c.getModifiers()), "the class is public and final");
    must(c.getDeclaredConstructors().length == 1 && c.getConstructors().length == 1, "one public constructor");
    TreeSet<String> shown = new TreeSet<>();
    TreeSet<String> names = new TreeSet<>();
    for (Method m : c.getDeclaredMethods()) {
      if (Modifier.isPublic(m.getModifiers())) { shown.add(told(m)); names.add(m.getName()); }
      else must(Modifier.isPrivate(m.getModifiers()), m.getName() + " is private");
    }
    must(shown.equals(new TreeSet<>(Arrays.asList(FACE))), "the public methods are those of the document: " + shown);
    for (Method m : c.getDeclaredMethods()) {
      if (Modifier.isPrivate(m.getModifiers())) must(!names.contains(m.getName()), m.getName() + " bears no public name");
    }
    for (Field f : c.getDeclaredFields()) {
      must(f.getName().equals("NONE") ? Modifier.isPublic(f.getModifiers()) : Modifier.isPrivate(f.getModifiers()), f.getName() + " is private");
    }
  }

  private static void classesInside() {
    Class<?>[] inside = FloodCells.class.getDeclaredClasses();
    must(inside.length <= 12, "at most twelve classes");
    for (Class<?> c : inside) {
      must(Modifier.isStatic(c.getModifiers()) && !Modifier.isPublic(c.getModifiers()), c.getName() + " is static and not public");
      int fields = 0;
      for (Field f : c.getDeclaredFields()) {
        if (!Modifier.isStatic(f.getModifiers())) fields++;
        else must(Modifier.isFinal(f.getModifiers()), f.getName() + " is final");
      }
      must(fields <= 20, c.getName() + " has at most twenty fields, has " + fields);
      for (Method m : c.getDeclaredMethods()) must(m.getParameterCount() <= 7, m.getName() + " takes at most seven");
    }
  }

  private static void source() throws Exception {
    String text = Files.readString(Path.of("src/main/java/FloodCells.java"));
    String code = text.replaceAll("(?s)/\\*.*?\\*/", "").replaceAll("//[^\n]*", "");
    for (String word : new String[] {"throw", "throws", "try", "catch", "finally", "synchronized", "assert", "package", "protected", "double", "float"}) {
      must(!Pattern.compile("\\b" + word + "\\b").matcher(code).find(), "no " + word);
    }
    must(!code.contains("->") && !code.contains("::"), "no lambda, no method reference");
    Matcher library = Pattern.compile("\\b(System|Arrays|Math|Integer|Long)\\.(\\w+)").matcher(code);
    while (library.find()) {
      must(Arrays.asList("System.arraycopy", "Arrays.fill", "Math.min", "Math.max").contains(library.group()), library.group() + " is of the library");
    }
    Matcher imports = Pattern.compile("import ([^;]+);").matcher(code);
    while (imports.find()) must(imports.group(1).equals("java.util.Arrays"), "no import of " + imports.group(1));
    int start = -1;
    String[] lines = code.split("\n");
    for (int i = 0; i < lines.length; i++) {
      if (lines[i].matches(" {4,8}(public|private|int|void|boolean)[^=;]*\\) \\{")) start = i;
      if (start >= 0 && lines[i].matches(" {4,8}\\}")) {
        must(i - start <= 60, "the method of line " + lines[start].trim() + " is short");
        start = -1;
      }
    }
  }

  /** Each method as "Class.name", with those that it calls; the names of fields and parameters tell whose they are. */
  private static Map<String, TreeSet<String>> callsByMethod() throws Exception {
    String code = Files.readString(Path.of("src/main/java/FloodCells.java")).replaceAll("(?s)/\\*.*?\\*/", "").replaceAll("//[^\n]*", "");
    Map<String, TreeSet<String>> bodies = new TreeMap<>();
    String owner = "FloodCells", method = null;
    for (String line : code.split("\n")) {
      Matcher inside = Pattern.compile(" {4}private static final class (\\w+) \\{").matcher(line);
      Matcher head = Pattern.compile(" {4,8}(?:public |private |static )*(?:int|void|boolean) (\\w+)\\([^=;]*\\) \\{").matcher(line);
      if (inside.matches()) { owner = inside.group(1); method = null; continue; }
      if (head.matches()) { method = owner + "." + head.group(1); bodies.put(method, new TreeSet<>()); continue; }
      if (method == null) continue;
      Matcher call = Pattern.compile("(?:\\b(\\w+)\\.)?\\b(\\w+)\\(").matcher(line);
      while (call.find()) bodies.get(method).add((call.group(1) == null ? owner : ownerOf(call.group(1))) + "." + call.group(2));
    }
    return bodies;
  }

  private static String ownerOf(String name) {
    return name.equals("trial") || name.equals("other") ? "Flood" : Character.toUpperCase(name.charAt(0)) + name.substring(1);
  }

  private static int depth(String method, Map<String, TreeSet<String>> calls, int open) {
    if (open > 50) throw new IllegalStateException(method + " calls itself");
    int most = 0;
    for (String called : calls.get(method)) {
      String outer = "FloodCells" + called.substring(called.indexOf('.'));
      String known = calls.containsKey(called) ? called : calls.containsKey(outer) ? outer : null;
      if (known != null) most = Math.max(most, depth(known, calls, open + 1));
    }
    return most + 1;
  }

  /** Calls go at most eight deep, and none is a recursion. */
  private static void depths() throws Exception {
    Map<String, TreeSet<String>> calls = callsByMethod();
    int declared = FloodCells.class.getDeclaredMethods().length;
    for (Class<?> c : FloodCells.class.getDeclaredClasses()) declared += c.getDeclaredMethods().length;
    must(calls.size() == declared, "each method is read from the source: " + calls.size() + " of " + declared);
    int deepest = 0;
    for (String m : calls.keySet()) deepest = Math.max(deepest, depth(m, calls, 0));
    must(deepest > 4 && deepest <= 8, "calls go at most eight deep, go " + deepest);
  }

  private static long elements(Object o, IdentityHashMap<Object, Boolean> met) throws Exception {
    if (o == null || met.put(o, true) != null) return 0;
    if (o.getClass().isArray()) return Array.getLength(o);
    long sum = 0;
    for (Field f : o.getClass().getDeclaredFields()) {
      if (Modifier.isStatic(f.getModifiers())) continue;
      sum++;
      f.setAccessible(true);
      if (!f.getType().isPrimitive()) sum += elements(f.get(o), met);
    }
    return sum;
  }

  private static FloodCells busyDesk() {
    FloodCells x = new FloodCells();
    x.stretch(50, 0, 10);
    for (int i = 1; i < 10; i++) x.cell(20 + i, i, 50 * i, 100 + i);
    for (int i = 0; i < 12; i++) x.dike(i % 10, (i + 1) % 10, 5 + i, 3, i % 3);
    for (int i = 0; i < 12; i++) x.road(1 + i % 9, i % 3 == 0 ? -1 : 1 + (i + 2) % 9, 3 + i, 1 + i % 5);
    for (int h = 0; h < 50; h += 3) x.flows(h, 40 * h);
    x.pit(1000);
    return x;
  }

  /** All calls of a run live in one room of 600,000 objects and 7.3 million fields and elements. */
  private static void room() throws Exception {
    FloodCells x = busyDesk();
    IdentityHashMap<Object, Boolean> met = new IdentityHashMap<>();
    long sum = elements(x, met);
    must(sum < 20000, "an object has few fields and elements, has " + sum);
    must(met.size() < 100, "an object is of few objects, is of " + met.size());
    com.sun.management.ThreadMXBean threads = (com.sun.management.ThreadMXBean) java.lang.management.ManagementFactory.getThreadMXBean();
    if (!threads.isThreadAllocatedMemorySupported()) return;
    dearCalls(x);
    long before = threads.getCurrentThreadAllocatedBytes();
    dearCalls(x);
    long taken = threads.getCurrentThreadAllocatedBytes() - before;
    must(taken < 100000, "calls make nothing, made " + taken + " bytes");
  }

  private static void dearCalls(FloodCells x) {
    for (int i = 0; i < 64; i++) {
      x.people(1 + i % 9, i);
      x.leave(100 - i / 4);
      x.bars(60 + i / 2);
      x.bar(60 + i / 2, 1, 1);
      x.soonest();
      x.best(1 + i);
      x.loss();
      x.flows(99, i);
      x.wet(2);
    }
  }

  public static void main(String[] args) throws Exception {
    face();
    classesInside();
    source();
    depths();
    room();
    System.out.println(wrong == 0 ? "the face and the rules hold" : wrong + " are not so");
    if (wrong != 0) System.exit(1);
  }
}
