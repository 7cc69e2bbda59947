import java.lang.reflect.Constructor;
import java.lang.reflect.Executable;
import java.lang.reflect.Field;
import java.lang.reflect.Method;
import java.lang.reflect.Modifier;
import java.nio.charset.StandardCharsets;
import java.nio.file.Files;
import java.nio.file.Path;
import java.util.ArrayList;
import java.util.List;
import java.util.Set;
import java.util.TreeSet;
import java.util.regex.Matcher;
import java.util.regex.Pattern;

/** The document's face, and those rules of LANGUAGE.md that can be seen from outside. Run from the project's root. */
public final class LanguageTest {
  private static final String[] FACE = {
    "int hall(int,int)", "int shelf(int,boolean)", "int reader(int,int,int,int)", "int lamp(int)", "int oil(int)",
    "int string(int,int)", "int light(int,int)", "int type(long,int)", "int clear()", "int read()", "int burn(int)",
    "int undo()", "int left(int)", "int way(int,int)", "int done(int,int,int)", "int stand(int)", "int two(int)",
    "int seats()", "int moved()", "int rest(int)", "int told(int,int)", "int been(int,int,int)", "int image(int)",
    "int from(int)", "int status(int)", "int count(int)", "long digest()",
  };
  private static final String[] BANNED = {
    "throw", "throws", "try", "catch", "finally", "synchronized", "assert", "import", "package", "native", "volatile",
    "transient", "var", "yield", "Object", "Thread", "Class", "Exception", "Random", "currentTimeMillis", "nanoTime",
    "\\w+Exact", "hashCode", "toString", "default\\s*->", "goto",
  };
  private static final int MOST_DEEP = 8;
  private static int wrong = 0;

  /** A method or constructor as it is written: its class, its name, its lines. */
  private record Written(String in, String name, String code) { }

  private static void must(boolean holds, String what) {
    if (holds) return;
    wrong++;
    System.out.println("not so: " + what);
  }

  private static String nameOf(Method m) {
    List<String> types = new ArrayList<>();
    for (Class<?> type : m.getParameterTypes()) types.add(type.getName());
    return m.getReturnType().getName() + " " + m.getName() + "(" + String.join(",", types) + ")";
  }

  private static void face() {
    Class<?> c = OneLamp.class;
    must(Modifier.isPublic(c.getModifiers()) && Modifier.isFinal(c.getModifiers()), "public and final");
    Set<String> open = new TreeSet<>();
    for (Method m : c.getDeclaredMethods()) {
      if (Modifier.isPublic(m.getModifiers())) open.add(nameOf(m));
      else must(Modifier.isPrivate(m.getModifiers()), m + " is private");
    }
    must(open.equals(new TreeSet<>(List.of(FACE))), "the methods are those of the document");
    Constructor<?>[] makers = c.getDeclaredConstructors();
    must(makers.length == 1 && Modifier.isPublic(makers[0].getModifiers()) && makers[0].getParameterCount() == 0, "one constructor");
    Set<String> constants = new TreeSet<>();
    for (Field f : c.getDeclaredFields()) {
      if (Modifier.isPublic(f.getModifiers())) constants.add(f.getName());
      else must(Modifier.isPrivate(f.getModifiers()), f + " is private");
    }
    must(constants.equals(Set.of("NONE", "BAD", "NO", "FULL")), "the constants are those of the document");
  }

  private static void oneClass(Class<?> c, Set<String> openNames) {
    int fields = 0;
    for (Field f : c.getDeclaredFields()) {
      if (Modifier.isStatic(f.getModifiers())) must(Modifier.isFinal(f.getModifiers()), f + " is final");
      else fields++;
    }
    must(fields <= 20, c + " has no more than 20 fields");
    List<Executable> all = new ArrayList<>(List.of(c.getDeclaredMethods()));
    all.addAll(List.of(c.getDeclaredConstructors()));
    for (Executable e : all) {
      must(e.getParameterCount() <= 7, e + " takes no more than seven");
      must(!e.isSynthetic(), e + " was written");
      if (c != OneLamp.class) must(!openNames.contains(e.getName()), e + " bears no public name");
      if (c == OneLamp.class && Modifier.isPrivate(e.getModifiers())) must(!openNames.contains(e.getName()), e + " bears no public name");
    }
  }

  private static void classes() {
    Set<String> openNames = new TreeSet<>();
    for (Method m : OneLamp.class.getMethods()) if (m.getDeclaringClass() == OneLamp.class) openNames.add(m.getName());
    Class<?>[] inside = OneLamp.class.getDeclaredClasses();
    must(inside.length <= 11, "some twelve classes");
    oneClass(OneLamp.class, openNames);
    for (Class<?> c : inside) {
      must(Modifier.isStatic(c.getModifiers()), c + " is static");
      must(c.getDeclaredClasses().length == 0, c + " has no classes inside");
      oneClass(c, openNames);
    }
  }

  private static String codeOf(String path) throws Exception {
    String text = Files.readString(Path.of(path), StandardCharsets.US_ASCII);
    return text.replaceAll("(?s)/\\*.*?\\*/", "").replaceAll("//[^\\n]*", "").replaceAll("\"[^\"]*\"", "\"\"");
  }

  /** All methods and constructors: the class's own are set in by four blanks, those of the classes inside by eight. */
  private static List<Written> methodsOf(String code) {
    List<Written> all = new ArrayList<>();
    String in = "OneLamp";
    String name = null;
    String end = "";
    StringBuilder body = new StringBuilder();
    for (String line : code.split("\n")) {
      Matcher inner = Pattern.compile(" {4}private static final class (\\w+) \\{").matcher(line);
      Matcher begin = Pattern.compile("( {4}| {8})(?:[\\w\\[\\]]+ )*?(\\w+)\\([^()]*\\) \\{").matcher(line);
      if (name == null && inner.matches()) {
        in = inner.group(1);
      } else if (name == null && begin.matches()) {
        name = begin.group(2);
        end = begin.group(1) + "}";
        body.setLength(0);
      } else if (name != null && line.equals(end)) {
        all.add(new Written(in, name, body.toString()));
        name = null;
      } else if (name != null) {
        body.append(line).append('\n');
      }
    }
    return all;
  }

  /** How many calls stand open at most; what calls itself again is recursion and counts once. */
  private static int depthOf(Written one, List<Written> all, List<Written> open) {
    open.add(one);
    int deepest = 0;
    Matcher call = Pattern.compile("\\b(\\w+)\\(").matcher(one.code());
    Set<String> names = new TreeSet<>();
    while (call.find()) names.add(call.group(1));
    for (Written other : all) {
      if (names.contains(other.name()) && !open.contains(other)) deepest = Math.max(deepest, depthOf(other, all, open));
    }
    open.remove(open.size() - 1);
    return deepest + 1;
  }

  private static void calls() throws Exception {
    List<Written> all = methodsOf(codeOf("src/main/java/OneLamp.java"));
    int written = 0;
    List<Class<?>> classes = new ArrayList<>(List.of(OneLamp.class.getDeclaredClasses()));
    classes.add(OneLamp.class);
    Set<String> makers = new TreeSet<>();
    for (Class<?> c : classes) {
      written += c.getDeclaredMethods().length;
      makers.add(c.getSimpleName());
    }
    int methods = 0;
    for (Written one : all) {
      boolean maker = makers.contains(one.name());
      if (!maker) methods++;
      must(depthOf(one, all, new ArrayList<>()) <= MOST_DEEP, one.in() + "." + one.name() + " goes no more than eight deep");
      must(maker || !Pattern.compile("\\bnew\\b").matcher(one.code()).find(), one.in() + "." + one.name() + " makes no object");
    }
    must(methods == written, "all " + written + " methods were looked at, not " + methods);
  }

  private static void source() throws Exception {
    String code = codeOf("src/main/java/OneLamp.java");
    for (String banned : BANNED) must(!Pattern.compile("\\b" + banned + "\\b").matcher(code).find(), "no " + banned);
    must(!code.contains("->") && !code.contains("::"), "no lambda, no method reference");
    Matcher library = Pattern.compile("\\b(System|Math|Integer|Long|Arrays)\\.(\\w+)").matcher(code);
    Set<String> allowed = Set.of("System.arraycopy", "Math.min", "Math.max", "Math.abs", "Integer.bitCount", "Integer.compare", "Integer.signum");
    while (library.find()) must(allowed.contains(library.group()), library.group() + " is in the list");
    int length = 0;
    boolean inside = false;
    for (String line : code.split("\n")) {
      boolean begins = line.matches("( {4}| {8})[a-z].*\\) \\{") && !line.matches(" *(if|for|while|switch|do)\\b.*");
      if (begins) length = 0;
      if (begins) inside = true;
      length++;
      must(!inside || length <= 60, "methods stay short: " + line);
      if (line.matches("( {4}| {8})\\}")) inside = false;
    }
  }

  public static void main(String[] args) throws Exception {
    face();
    classes();
    calls();
    source();
    System.out.println(wrong == 0 ? "face and language are as told" : wrong + " rules are broken");
    if (wrong != 0) System.exit(1);
  }
}
