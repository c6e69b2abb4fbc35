import java.lang.reflect.Method;
import java.lang.reflect.Modifier;
import java.util.Arrays;
import java.util.Comparator;

/** Every call by numbers around every limit, the least and the greatest: none throws, all answer as PlainModel does. */
public final class ExtremesTest {
  static final int LEAST = Integer.MIN_VALUE;
  static final int GREATEST = Integer.MAX_VALUE;
  static final int[][] NUMBERS = {{},
    {LEAST, -3, -2, -1, 0, 1, 2, 3, 4, 5, 6, 7, 9, 10, 11, 15, 16, 20, 21, 31, 32, 60, 61, 399, 400, 401, GREATEST},
    {LEAST, -3, -2, -1, 0, 1, 2, 3, 4, 5, 6, 20, 21, 32, 40, 41, 60, 61, 9999, 10000, GREATEST},
    {LEAST, -2, -1, 0, 1, 2, 3, 5, 6, 32, 60, 61, 100, 101, GREATEST},
    {LEAST, -1, 0, 1, 2, 3, 10, 11, 20, 21, 40, 41, 60, 61, 100, 101, GREATEST}};
  /** Within it what an object answers is promised. */
  static final int CALLS = 512;

  final String dale;
  final int nights;
  WinterKeep real;
  PlainModel plain;
  int made = CALLS;
  long answers = 0;

  ExtremesTest(String dale, int nights) {
    this.dale = dale;
    this.nights = nights;
  }

  void tape(String text) {
    for (int i = 0; i < text.length(); i += 20) {
      int[] n = Bytes.twenty(text, i);
      real.feed(n[0], n[1], n[2], n[3], n[4]);
      plain.feed(n);
      made++;
    }
    real.end(text.length());
    plain.end(text.length());
    made += 2;
  }

  void begin() {
    real = new WinterKeep();
    plain = new PlainModel();
    made = 0;
    for (String rule : new String[] {"tell 1", "tell 1 if night<3 or full<20"}) {
      tape(rule);
      real.rule();
      plain.rule();
    }
    if (dale.isEmpty()) return;
    tape(dale);
    real.dale();
    plain.dale();
    for (int i = 0; i < nights; i++) {
      real.night();
      plain.night();
      made++;
    }
    real.carry(1, 1);
    plain.carry(1, 1);
    made++;
  }

  void call(Method ofReal, Method ofPlain, Object[] args) throws ReflectiveOperationException {
    if (made >= CALLS) begin();
    made++;
    answers++;
    int got = (Integer) ofReal.invoke(real, args);
    int want = (Integer) ofPlain.invoke(plain, args);
    if (got != want) {
      System.out.println("ExtremesTest: '" + dale + "': " + ofReal.getName() + Arrays.toString(args) + " answered " + got
          + ", due is " + want);
      System.exit(1);
    }
  }

  void callAll(Method ofReal) throws ReflectiveOperationException {
    Method ofPlain = PlainModel.class.getDeclaredMethod(ofReal.getName(), ofReal.getParameterTypes());
    int many = ofReal.getParameterCount();
    int[] numbers = NUMBERS[many];
    int ways = 1;
    for (int i = 0; i < many; i++) ways *= numbers.length;
    for (int way = 0; way < ways; way++) {
      Object[] args = new Object[many];
      int rest = way;
      for (int i = 0; i < many; i++) {
        args[i] = numbers[rest % numbers.length];
        rest /= numbers.length;
      }
      call(ofReal, ofPlain, args);
    }
  }

  public static void main(String[] args) throws ReflectiveOperationException {
    String six = "dale 2 9" + ";keep 60 1".repeat(6) + ";person 0 9;person 0 9;person 1 4;person 5 1;person 2 3;"
        + "field 60;field 3;field 0;field 7;beside 0 1;beside 1 5";
    ExtremesTest[] all = {new ExtremesTest("", 0), new ExtremesTest("dale 0 1", 0), new ExtremesTest("dale 0 1;keep 4 0", 1),
      new ExtremesTest("dale 1 99;keep 9 20;keep 60 20;person 1 2;field 1", 2), new ExtremesTest(six, 0),
      new ExtremesTest(six, 3)};
    Method[] methods = WinterKeep.class.getDeclaredMethods();
    Arrays.sort(methods, Comparator.comparing(Method::getName));
    long answers = 0;
    for (ExtremesTest test : all) {
      for (Method method : methods) {
        if (Modifier.isPublic(method.getModifiers()) && method.getParameterCount() < NUMBERS.length) test.callAll(method);
      }
      answers += test.answers;
    }
    System.out.println("ExtremesTest: " + answers + " answers are the same");
  }
}
