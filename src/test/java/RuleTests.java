import java.lang.management.ManagementFactory;
import java.lang.reflect.Constructor;
import java.lang.reflect.Field;
import java.lang.reflect.InvocationTargetException;
import java.lang.reflect.Method;
import java.lang.reflect.Modifier;
import java.nio.file.Files;
import java.nio.file.Path;
import java.util.Arrays;
import java.util.Map;
import java.util.Set;
import java.util.TreeMap;
import java.util.TreeSet;
import java.util.regex.Matcher;
import java.util.regex.Pattern;
import java.util.stream.Collectors;

/** What LANGUAGE.md asks and can be seen from outside: the face, words that are not used, what a call makes. */
public final class RuleTests {
  private static final String FACE = "type(int,int) wipe(int) undo(int) fault(int) cell(int) bed() deed(int,int) "
      + "set(int,int) thunder(int,int) back() read(int) carry(int,int,int) heard(int,int) noise(int) depth(int) wakes() "
      + "exiled(int) loudest() hour(int,int) felt(int) lay(int) way(int,int) listened(int,int) forget() never() "
      + "whence(int,int) what(int) ask(int) sleeps(int,int) day(int,int,int) sheet(int,int,int) lose(int) "
      + "put(int,int,int,int) get(int,int,int) copy(int,int,int,int,int) write(int) count(int) digest()";
  private static final Set<String> LONGS = Set.of("sleeps", "digest");
  private static final Checks CHECKS = new Checks("rules");

  public static void main(String[] args) throws Exception {
    face();
    faceOfTheDocument();
    names();
    source();
    depthOfCalls();
    throwsNothing();
    room();
    CHECKS.end();
  }

  private static void face() {
    Class<?> c = FounderSleeps.class;
    CHECKS.holds("public and final", Modifier.isPublic(c.getModifiers()) && Modifier.isFinal(c.getModifiers()));
    Set<String> due = new TreeSet<>(Arrays.asList(FACE.split(" ")));
    Set<String> got = new TreeSet<>();
    for (Method m : c.getDeclaredMethods()) {
      if (!Modifier.isPrivate(m.getModifiers()) && !m.isSynthetic()) {
        String types = Arrays.stream(m.getParameterTypes()).map(Class::getName).collect(Collectors.joining(","));
        got.add(m.getName() + "(" + types + ")");
        CHECKS.holds(m + " is public, not static", Modifier.isPublic(m.getModifiers()) && !Modifier.isStatic(m.getModifiers()));
        CHECKS.holds(m + " answers as told", m.getReturnType() == (LONGS.contains(m.getName()) ? long.class : int.class));
      }
    }
    CHECKS.holds("the face is " + due + ", not " + got, due.equals(got));
    Set<String> constants = new TreeSet<>();
    for (Field f : c.getDeclaredFields()) {
      boolean isStatic = Modifier.isStatic(f.getModifiers());
      CHECKS.holds(f + " is final, if it is static", !isStatic || Modifier.isFinal(f.getModifiers()));
      if (!Modifier.isPrivate(f.getModifiers())) {
        constants.add(f.getName());
      }
    }
    CHECKS.holds("constants", constants.equals(Set.of("NONE", "BAD", "NOT", "FULL")));
    Constructor<?>[] all = c.getDeclaredConstructors();
    CHECKS.holds("one constructor", all.length == 1 && all[0].getParameterCount() == 0 && Modifier.isPublic(all[0].getModifiers()));
    CHECKS.due("NONE", FounderSleeps.NONE, -1);
    CHECKS.due("BAD", FounderSleeps.BAD, -2);
    CHECKS.due("NOT", FounderSleeps.NOT, -3);
    CHECKS.due("FULL", FounderSleeps.FULL, -4);
  }

  /** The lines between ```java and ```, each of which the class must have, with that type and those numbers. */
  private static void faceOfTheDocument() throws Exception {
    String doc = Files.readString(Path.of("../shared/DOC.md"));
    String shown = doc.substring(doc.indexOf("```java") + 7, doc.indexOf("```", doc.indexOf("```java") + 7));
    Set<String> due = new TreeSet<>();
    Matcher calls = Pattern.compile("public (int|long) (\\w+)\\(([^)]*)\\);").matcher(shown);
    while (calls.find()) {
      due.add(calls.group(1) + " " + calls.group(2) + "(" + calls.group(3).replaceAll("int \\w+", "int").replace(" ", "") + ")");
    }
    Set<String> got = new TreeSet<>();
    for (Method m : FounderSleeps.class.getDeclaredMethods()) {
      if (Modifier.isPublic(m.getModifiers())) {
        String types = Arrays.stream(m.getParameterTypes()).map(Class::getName).collect(Collectors.joining(","));
        got.add(m.getReturnType() + " " + m.getName() + "(" + types + ")");
      }
    }
    CHECKS.due("calls that the document shows", due.size(), 38);
    CHECKS.holds("the document shows " + due + ", not " + got, due.equals(got));
    Matcher constants = Pattern.compile("([A-Z]+) = (-?[0-9]+)").matcher(shown);
    int many = 0;
    while (constants.find()) {
      many++;
      CHECKS.due(constants.group(1), FounderSleeps.class.getField(constants.group(1)).getInt(null),
          Integer.parseInt(constants.group(2)));
    }
    CHECKS.due("constants that the document shows", many, 4);
  }

  private static void names() {
    Set<String> open = Arrays.stream(FACE.split(" ")).map(s -> s.substring(0, s.indexOf('('))).collect(Collectors.toSet());
    for (Method m : FounderSleeps.class.getDeclaredMethods()) {
      CHECKS.holds(m + " bears no public name", Modifier.isPublic(m.getModifiers()) || !open.contains(m.getName()));
      CHECKS.holds(m + " takes seven at most", m.getParameterCount() <= 7);
    }
    long fields = Arrays.stream(FounderSleeps.class.getDeclaredFields()).filter(f -> !Modifier.isStatic(f.getModifiers())).count();
    CHECKS.holds("twenty fields at most, not " + fields, fields <= 20);
    Class<?>[] inside = FounderSleeps.class.getDeclaredClasses();
    CHECKS.holds("twelve classes at most", inside.length <= 11);
    for (Class<?> c : inside) {
      CHECKS.holds(c + " is static", Modifier.isStatic(c.getModifiers()) && !Modifier.isPublic(c.getModifiers()));
      for (Method m : c.getDeclaredMethods()) {
        CHECKS.holds(m + " bears no public name", !open.contains(m.getName()));
        CHECKS.holds(m + " takes seven at most", m.getParameterCount() <= 7);
      }
      CHECKS.holds(c + " has twenty fields at most", c.getDeclaredFields().length <= 20);
      for (Field f : c.getDeclaredFields()) {
        CHECKS.holds(f + " is not static", !Modifier.isStatic(f.getModifiers()));
      }
    }
  }

  private static String code() throws Exception {
    return Files.readString(Path.of("src/main/java/FounderSleeps.java"));
  }

  private static String withoutWords(String code) {
    return code.replaceAll("(?s)/\\*.*?\\*/", " ").replaceAll("//[^\n]*", " ")
        .replaceAll("\"[^\"\n]*\"", "text").replaceAll("'[^'\n]*'", "0");
  }

  private static void source() throws Exception {
    String code = code();
    String bare = withoutWords(code);
    for (String word : "throw throws try catch synchronized assert instanceof package native volatile transient".split(" ")) {
      CHECKS.holds("no " + word, !Pattern.compile("\\b" + word + "\\b").matcher(bare).find());
    }
    for (String sign : new String[] {"->", "::", "@", "Exact", "Object", "hashCode", "toString", "\\u"}) {
      CHECKS.holds("no " + sign, !bare.contains(sign));
    }
    Matcher imports = Pattern.compile("import ([^;]*);").matcher(bare);
    while (imports.find()) {
      CHECKS.holds("import of " + imports.group(1), imports.group(1).equals("java.util.Arrays"));
    }
    Matcher library = Pattern.compile("\\b(Arrays|Math|Long|Integer|System)\\.(\\w+)").matcher(bare);
    Set<String> may = Set.of("Arrays.fill", "Math.min", "Math.max", "Long.bitCount", "System.arraycopy");
    while (library.find()) {
      CHECKS.holds(library.group() + " is of the library that may be used", may.contains(library.group()));
    }
    CHECKS.holds("signs 1 to 127", code.chars().allMatch(c -> c > 0 && c < 128));
    int begun = 0;
    String[] lines = code.split("\n");
    for (int i = 0; i < lines.length; i++) {
      if (lines[i].matches(" {2,4}[a-z].*\\) \\{")) {
        begun = i;
      }
      if (lines[i].matches(" {2,4}\\}")) {
        CHECKS.holds("the method at line " + (begun + 1) + " is short", i - begun <= 60 || lines[begun].contains("class"));
      }
    }
  }

  /** Rules 8 and 11, by names alone: methods of one name count as one, so the way found is never too short. */
  private static void depthOfCalls() throws Exception {
    Pattern begin = Pattern.compile("( {2}| {4})(?:(?:public|private|static) )*(?:[\\w\\[\\]]+ )?(\\w+)\\([^)]*\\) \\{");
    Map<String, String> bodies = new TreeMap<>();
    String name = "";
    String end = "";
    for (String line : withoutWords(code()).split("\n")) {
      Matcher m = begin.matcher(line);
      if (name.isEmpty() && m.matches()) {
        name = m.group(2);
        end = m.group(1) + "}";
      } else if (line.equals(end)) {
        name = "";
      } else if (!name.isEmpty()) {
        bodies.merge(name, line, (a, b) -> a + " " + b);
      }
    }
    CHECKS.holds("all public methods are found", bodies.keySet().containsAll(
        Arrays.stream(FACE.split(" ")).map(s -> s.substring(0, s.indexOf('('))).collect(Collectors.toSet())));
    for (String method : bodies.keySet()) {
      int deep = deepest(method, bodies, 1);
      CHECKS.holds(method + " goes eight deep at most, not " + deep, deep <= 8);
    }
  }

  private static int deepest(String method, Map<String, String> bodies, int deep) {
    int most = deep;
    Matcher called = Pattern.compile("(\\w+)\\(").matcher(bodies.getOrDefault(method, ""));
    while (called.find() && most <= 8) {
      if (bodies.containsKey(called.group(1))) {
        most = Math.max(most, deepest(called.group(1), bodies, deep + 1));
      }
    }
    return most;
  }

  /** Rule 7: for any numbers, in any state, one call behind the other. */
  private static void throwsNothing() throws Exception {
    int[] few = {Integer.MIN_VALUE, -1, 0, 1, 3, 61, Integer.MAX_VALUE};
    int[] many = {Integer.MIN_VALUE, -2, -1, 0, 1, 2, 3, 5, 8, 9, 10, 35, 36, 60, 61, 255, Integer.MAX_VALUE};
    String[][] states = {{"", ""}, {"b", "39n9"}, {"..;", "00w0;"},
        {"......;..h...;h.fb.h;...h..;.f...f;h.....", "00n0;07k1;15w1;20c2;14n4;07c3;35k6;22k8"}};
    for (String[] state : states) {
      for (Method m : FounderSleeps.class.getMethods()) {
        if (m.getDeclaringClass() == FounderSleeps.class) {
          FounderSleeps x = Checks.town(state[0], state[1]);
          x.sheet(1, 0, 60);
          x.sheet(2, 1, 1);
          x.sheet(3, 2, 0);
          sweep(x, m, m.getParameterCount() > 3 ? few : many);
        }
      }
    }
  }

  private static void sweep(FounderSleeps x, Method m, int[] numbers) throws Exception {
    int calls = 1;
    for (int i = 0; i < m.getParameterCount(); i++) {
      calls *= numbers.length;
    }
    Object[] arguments = new Object[m.getParameterCount()];
    boolean well = true;
    for (int i = 0; i < calls && well; i++) {
      int rest = i;
      for (int k = 0; k < arguments.length; k++) {
        arguments[k] = numbers[rest % numbers.length];
        rest /= numbers.length;
      }
      try {
        m.invoke(x, arguments);
      } catch (InvocationTargetException e) {
        well = false;
      }
    }
    CHECKS.holds(m.getName() + Arrays.toString(arguments) + " throws nothing", well);
  }

  /** All that is used is made with the object: later calls make nothing. */
  private static void room() {
    com.sun.management.ThreadMXBean bean = (com.sun.management.ThreadMXBean) ManagementFactory.getThreadMXBean();
    FounderSleeps x = Checks.town("......;..h...;..bf..;......;......;......", "00n0;07k1;15w1;20c2;14n4;07c3;35k6;22k8");
    x.set(0, 0);
    x.digest();
    long id = Thread.currentThread().getId();
    bean.getThreadAllocatedBytes(id);
    long before = bean.getThreadAllocatedBytes(id);
    for (int i = 0; i < 100; i++) {
      x.sheet(i % 4, i % 3, 60);
      x.set(0, i % 7);
      x.digest();
      x.write(i % 4);
      x.read(i % 4);
    }
    long made = bean.getThreadAllocatedBytes(id) - before;
    CHECKS.holds("500 calls make less than 4096 bytes: " + made, made < 4096);
  }
}
