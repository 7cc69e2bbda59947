import java.lang.reflect.InvocationTargetException;
import java.lang.reflect.Method;
import java.nio.charset.StandardCharsets;
import java.nio.file.Files;
import java.nio.file.Path;
import java.util.ArrayList;
import java.util.List;
import java.util.Set;
import java.util.TreeSet;
import java.util.regex.Matcher;
import java.util.regex.Pattern;

/** What README.md says that calls answer, they answer; and it names every call. Run from the project's root. */
public final class ReadmeTest {
  private static final Pattern CALL = Pattern.compile("x\\.(\\w+)\\(([^)]*)\\);\\s*// (-?\\d+)(?:: .*)?");
  private static final int LEAST_CALLS = 40;
  private static int wrong = 0;

  private static void fault(String what) {
    wrong++;
    System.out.println(what);
  }

  private static Object valueOf(String text, Class<?> type) {
    if (type == boolean.class) return Boolean.valueOf(text);
    if (text.equals("OneLamp.NONE")) return OneLamp.NONE;
    if (type == long.class) return Long.decode(text.replaceAll("L$", ""));
    return Integer.decode(text);
  }

  private static Method methodOf(String name) {
    for (Method m : OneLamp.class.getMethods()) if (m.getDeclaringClass() == OneLamp.class && m.getName().equals(name)) return m;
    throw new IllegalStateException("there is no call " + name);
  }

  private static long answerOf(OneLamp x, Method m, String told) throws IllegalAccessException, InvocationTargetException {
    String[] given = told.isEmpty() ? new String[0] : told.split(", ");
    Class<?>[] types = m.getParameterTypes();
    if (given.length != types.length) throw new IllegalStateException(m + " is given " + told);
    List<Object> values = new ArrayList<>();
    for (int i = 0; i < given.length; i++) values.add(valueOf(given[i], types[i]));
    return ((Number) m.invoke(x, values.toArray())).longValue();
  }

  /** Makes the calls of one example; answers how many they are. */
  private static int example(String[] lines) throws IllegalAccessException, InvocationTargetException {
    OneLamp x = null;
    int calls = 0;
    for (String line : lines) {
      Matcher call = CALL.matcher(line);
      if (line.equals("OneLamp x = new OneLamp();")) {
        x = new OneLamp();
      } else if (!call.matches()) {
        fault("this is no call with its answer: " + line);
      } else {
        calls++;
        long got = answerOf(x, methodOf(call.group(1)), call.group(2));
        if (got != Long.parseLong(call.group(3))) fault("README says: " + line + " but the answer is " + got);
      }
    }
    return calls;
  }

  public static void main(String[] args) throws Exception {
    String text = Files.readString(Path.of("README.md"), StandardCharsets.UTF_8);
    Matcher block = Pattern.compile("(?s)```java\\n(.*?)```").matcher(text);
    int calls = 0;
    while (block.find()) calls += example(block.group(1).split("\n"));
    if (calls < LEAST_CALLS) fault("README has only " + calls + " calls with their answers");
    Set<String> missing = new TreeSet<>();
    for (Method m : OneLamp.class.getMethods()) {
      if (m.getDeclaringClass() == OneLamp.class && !text.contains("`" + m.getName() + "(")) missing.add(m.getName());
    }
    if (!missing.isEmpty()) fault("README does not tell of " + missing);
    System.out.println(calls + " calls of README.md, " + wrong + " not as told");
    if (wrong != 0) System.exit(1);
  }
}
