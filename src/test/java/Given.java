/** Objects to begin a test with, and all that can be seen of one. */
final class Given {
  private Given() { }

  static WinterKeep dale(String dale, String... rules) {
    WinterKeep w = new WinterKeep();
    if (Bytes.dale(w, dale) < 0) throw new IllegalStateException("no DALE: " + dale);
    for (int i = 0; i < rules.length; i++) {
      if (Bytes.rule(w, rules[i]) != i) throw new IllegalStateException("no RULE: " + rules[i]);
    }
    return w;
  }

  /** The same, with the first RULE IN FORCE. */
  static WinterKeep ruled(String dale, String... rules) {
    WinterKeep w = dale(dale, rules);
    w.force(0);
    return w;
  }

  static void nights(WinterKeep w, int n) { for (int i = 0; i < n; i++) w.night(); }

  /** What count, keep, person and field answer, but for the bytes of the TAPE. */
  static String stateBesideTape(WinterKeep w) {
    StringBuilder b = new StringBuilder();
    for (int i = 0; i < 15; i++) b.append(w.count(i)).append(' ');
    for (int k = 0; k < 6; k++) for (int i = 0; i < 6; i++) b.append(w.keep(k, i)).append(' ');
    for (int p = 0; p < 5; p++) for (int i = 0; i < 2; i++) b.append(w.person(p, i)).append(' ');
    for (int f = 0; f < 4; f++) for (int i = 0; i < 3; i++) b.append(w.field(f, i)).append(' ');
    return b.toString();
  }

  static String state(WinterKeep w) { return stateBesideTape(w) + w.count(15); }
}
