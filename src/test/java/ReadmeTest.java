import java.lang.reflect.InvocationTargetException;
import java.lang.reflect.Method;
import java.lang.reflect.Modifier;
import java.nio.file.Files;
import java.nio.file.Path;
import java.util.ArrayList;
import java.util.List;
import java.util.Set;
import java.util.TreeSet;
import java.util.regex.Matcher;
import java.util.regex.Pattern;

/** The calls that README.md shows as the use of the class, read from it, with the answers that it gives for them. */
public final class ReadmeTest {
  static final Pattern CALL = Pattern.compile("w\\.(\\w+)\\(([^)]*)\\);\\s*// (-?\\d+)(: .*)?");
  static final String NEW = "WinterKeep w = new WinterKeep();";
  static final Due due = new Due("ReadmeTest");
  static final Set<String> shown = new TreeSet<>();
  static final int MOST_CALLS = 512;

  static WinterKeep w = null;
  static int calls = 0;

  /** The lines of all blocks of Java. */
  static List<String> lines(String text) {
    List<String> all = new ArrayList<>();
    boolean isJava = false;
    for (String line : text.split("\n")) {
      if (line.startsWith("```")) isJava = line.equals("```java");
      else if (isJava && !line.isBlank()) all.add(line.strip());
    }
    return all;
  }

  static int number(String text) {
    if (text.equals("WinterKeep.NONE")) return WinterKeep.NONE;
    return text.startsWith("0x") ? Integer.parseUnsignedInt(text.substring(2), 16) : Integer.parseInt(text);
  }

  static int[] numbers(String list) {
    if (list.isBlank()) return new int[0];
    String[] parts = list.split(",");
    int[] all = new int[parts.length];
    for (int i = 0; i < parts.length; i++) all[i] = number(parts[i].strip());
    return all;
  }

  static Method method(String name, int parameters) {
    for (Method m : WinterKeep.class.getDeclaredMethods()) {
      boolean isPublic = Modifier.isPublic(m.getModifiers());
      if (isPublic && m.getName().equals(name) && m.getParameterCount() == parameters) return m;
    }
    return null;
  }

  /** A quote behind a feed is what its bytes say, zeros behind it. */
  static void quote(String line, int[] fed) {
    Matcher quote = Pattern.compile(": \"([^\"]*)\"$").matcher(line);
    boolean isQuoted = quote.find();
    due.is(line + " has a quote", isQuoted ? 1 : 0, 1);
    if (!isQuoted) return;
    int[] said = Bytes.twenty(quote.group(1), 0);
    for (int i = 0; i < 5; i++) due.is(line + " number " + i, fed[i], said[i]);
  }

  static void call(String line) throws IllegalAccessException, InvocationTargetException {
    Matcher call = CALL.matcher(line);
    boolean isCall = call.matches();
    due.is("'" + line + "' is a call with its answer", isCall && w != null ? 1 : 0, 1);
    if (!isCall || w == null) return;
    int[] numbers = numbers(call.group(2));
    Method method = method(call.group(1), numbers.length);
    due.is("'" + line + "' is of the face", method != null ? 1 : 0, 1);
    if (method == null) return;
    if (call.group(1).equals("feed")) quote(line, numbers);
    Object[] boxed = new Object[numbers.length];
    for (int i = 0; i < numbers.length; i++) boxed[i] = numbers[i];
    due.is(line, (int) method.invoke(w, boxed), Integer.parseInt(call.group(3)));
    shown.add(call.group(1));
    calls++;
  }

  public static void main(String[] args) throws Exception {
    String readme = Files.readString(Path.of("README.md"));
    for (String line : lines(readme)) {
      if (line.equals(NEW)) {
        w = new WinterKeep();
        calls = 0;
      } else {
        call(line);
      }
      due.is("calls of one object, " + calls + ", are within " + MOST_CALLS, calls <= MOST_CALLS ? 1 : 0, 1);
    }
    for (Method m : WinterKeep.class.getDeclaredMethods()) {
      if (!Modifier.isPublic(m.getModifiers())) continue;
      due.is(m.getName() + " is shown", shown.contains(m.getName()) ? 1 : 0, 1);
    }
    for (String test : new java.io.File("src/test/java").list()) {
      if (!test.endsWith("Test.java")) continue;
      due.is(test + " is named", readme.contains("`" + test.replace(".java", "")) ? 1 : 0, 1);
    }
    due.end();
  }
}
