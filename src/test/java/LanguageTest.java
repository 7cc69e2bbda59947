import java.lang.reflect.Constructor;
import java.lang.reflect.Executable;
import java.lang.reflect.Field;
import java.lang.reflect.Method;
import java.lang.reflect.Modifier;
import java.nio.charset.StandardCharsets;
import java.nio.file.Files;
import java.nio.file.Path;
import java.util.ArrayList;
import java.util.List;
import java.util.Set;
import java.util.TreeSet;
import java.util.regex.Matcher;
import java.util.regex.Pattern;

/** The document's face, and those rules of LANGUAGE.md that can be seen from outside. Run from the project's root. */
public final class LanguageTest {
  private static final String[] FACE = {
    "int hall(int,int)", "int shelf(int,boolean)", "int reader(int,int,int,int)", "int lamp(int)", "int oil(int)",
    "int string(int,int)", "int light(int,int)", "int type(long,int)", "int clear()", "int read()", "int burn(int)",
    "int undo()", "int left(int)", "int way(int,int)", "int done(int,int,int)", "int stand(int)", "int two(int)",
    "int seats()", "int moved()", "int rest(int)", "int told(int,int)", "int been(int,int,int)", "int image(int)",
    "int from(int)", "int status(int)", "int count(int)", "long digest()",
  };
  private static final String[] BANNED = {
    "throw", "throws", "try", "catch", "finally", "synchronized", "assert", "import", "package", "native", "volatile",
    "transient", "var", "yield", "Object", "Thread", "Class", "Exception", "Random", "currentTimeMillis", "nanoTime",
    "\\w+Exact", "hashCode", "toString", "default\\s*->", "goto",
  };
  private static int wrong = 0;

  private static void must(boolean holds, String what) {
    if (holds) return;
    wrong++;
    System.out.println("not so: " + what);
  }

  private static String nameOf(Method m) {
    List<String> types = new ArrayList<>();
    for (Class<?> type : m.getParameterTypes()) types.add(type.getName());
    return m.getReturnType().getName() + " " + m.getName() + "(" + String.join(",", types) + ")";
  }

  private static void face() {
    Class<?> c = OneLamp.class;
    must(Modifier.isPublic(c.getModifiers()) && Modifier.isFinal(c.getModifiers()), "public and final");
    Set<String> open = new TreeSet<>();
    for (Method m : c.getDeclaredMethods()) {
      if (Modifier.isPublic(m.getModifiers())) open.add(nameOf(m));
      else must(Modifier.isPrivate(m.getModifiers()), m + " is private");
    }
    must(open.equals(new TreeSet<>(List.of(FACE))), "the methods are those of the document");
    Constructor<?>[] makers = c.getDeclaredConstructors();
    must(makers.length == 1 && Modifier.isPublic(makers[0].getModifiers()) && makers[0].getParameterCount() == 0, "one constructor");
    Set<String> constants = new TreeSet<>();
    for (Field f : c.getDeclaredFields()) {
      if (Modifier.isPublic(f.getModifiers())) constants.add(f.getName());
      else must(Modifier.isPrivate(f.getModifiers()), f + " is private");
    }
    must(constants.equals(Set.of("NONE", "BAD", "NO", "FULL")), "the constants are those of the document");
  }

  private static void oneClass(Class<?> c, Set<String> openNames) {
    int fields = 0;
    for (Field f : c.getDeclaredFields()) {
      if (Modifier.isStatic(f.getModifiers())) must(Modifier.isFinal(f.getModifiers()), f + " is final");
      else fields++;
    }
    must(fields <= 20, c + " has no more than 20 fields");
    List<Executable> all = new ArrayList<>(List.of(c.getDeclaredMethods()));
    all.addAll(List.of(c.getDeclaredConstructors()));
    for (Executable e : all) {
      must(e.getParameterCount() <= 7, e + " takes no more than seven");
      must(!e.isSynthetic(), e + " was written");
      if (c != OneLamp.class) must(!openNames.contains(e.getName()), e + " bears no public name");
      if (c == OneLamp.class && Modifier.isPrivate(e.getModifiers())) must(!openNames.contains(e.getName()), e + " bears no public name");
    }
  }

  private static void classes() {
    Set<String> openNames = new TreeSet<>();
    for (Method m : OneLamp.class.getMethods()) if (m.getDeclaringClass() == OneLamp.class) openNames.add(m.getName());
    Class<?>[] inside = OneLamp.class.getDeclaredClasses();
    must(inside.length <= 11, "some twelve classes");
    oneClass(OneLamp.class, openNames);
    for (Class<?> c : inside) {
      must(Modifier.isStatic(c.getModifiers()), c + " is static");
      must(c.getDeclaredClasses().length == 0, c + " has no classes inside");
      oneClass(c, openNames);
    }
  }

  private static void source() throws Exception {
    String text = Files.readString(Path.of("src/main/java/OneLamp.java"), StandardCharsets.US_ASCII);
    String code = text.replaceAll("(?s)/\\*.*?\\*/", "").replaceAll("//[^\\n]*", "").replaceAll("\"[^\"]*\"", "\"\"");
    for (String banned : BANNED) must(!Pattern.compile("\\b" + banned + "\\b").matcher(code).find(), "no " + banned);
    must(!code.contains("->") && !code.contains("::"), "no lambda, no method reference");
    Matcher library = Pattern.compile("\\b(System|Math|Integer|Long|Arrays)\\.(\\w+)").matcher(code);
    Set<String> allowed = Set.of("System.arraycopy", "Math.min", "Math.max", "Math.abs", "Integer.bitCount", "Integer.compare", "Integer.signum");
    while (library.find()) must(allowed.contains(library.group()), library.group() + " is in the list");
    int length = 0;
    boolean inside = false;
    for (String line : code.split("\n")) {
      boolean begins = line.matches("( {4}| {8})[a-z].*\\) \\{") && !line.matches(" *(if|for|while|switch|do)\\b.*");
      if (begins) length = 0;
      if (begins) inside = true;
      length++;
      must(!inside || length <= 60, "methods stay short: " + line);
      if (line.matches("( {4}| {8})\\}")) inside = false;
    }
  }

  public static void main(String[] args) throws Exception {
    face();
    classes();
    source();
    System.out.println(wrong == 0 ? "face and language are as told" : wrong + " rules are broken");
    if (wrong != 0) System.exit(1);
  }
}
