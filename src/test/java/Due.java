/** Counts answers that are not the ones that are due. */
final class Due {
  private final String name;
  private int wrong = 0;
  private int right = 0;

  Due(String name) { this.name = name; }

  void is(String call, long got, long want) {
    if (got == want) {
      right++;
    } else {
      wrong++;
      System.out.println(name + ": " + call + " answered " + got + ", due is " + want);
    }
  }

  void end() {
    System.out.println(name + ": " + right + " as due, " + wrong + " not");
    if (wrong != 0) System.exit(1);
  }
}
