/** Promises 4 and 5: which texts are a DALE or a RULE, and the FAULTS of others. */
public final class FaultsTest {
  static final Due due = new Due("FaultsTest");

  static int fault(int place, int kind) { return -2 - (1 + 8 * place + kind); }

  static void dale(String text, int want) { due.is("dale of '" + text + "'", Bytes.dale(new WinterKeep(), text), want); }
  static void rule(String text, int want) { due.is("rule of '" + text + "'", Bytes.rule(new WinterKeep(), text), want); }

  /** A FAULT at the first '^' of the text, which is left out of it. */
  static void daleAt(String marked, int kind) { dale(marked.replace("^", ""), fault(marked.indexOf('^'), kind)); }
  static void ruleAt(String marked, int kind) { rule(marked.replace("^", ""), fault(marked.indexOf('^'), kind)); }

  static void dales() {
    dale("dale 0 1", 0);
    dale("dale 9 99", 0);
    dale("  dale0 1  ", 0);
    dale("dale00009 00099;keep60 20;keep 1 0", 2);
    dale("dale 0 1 ; keep 1 0 ;person 0 9; field 60;field 0", 1);
    dale("dale 0 1;keep 1 0;keep 1 0;beside 0 1;beside 1 0;beside 0 1", 2);
    daleAt("^", 0);
    daleAt("   ^", 0);
    daleAt("dale^", 0);
    daleAt("dale  ^", 0);
    daleAt("dale 1^", 0);
    daleAt("dale 1 ^;", 0);
    daleAt("^dales 0 1", 0);
    daleAt("^dal", 0);
    daleAt("^dalez 0 1", 0);
    daleAt("dale 0 1;^zkeep 1 0", 0);
    daleAt("^Dale 0 1", 0);
    daleAt("dale^X 0 1", 0);
    daleAt("dale ^s 1", 0);
    daleAt("dale ^-1 1", 0);
    daleAt("dale 0^,1", 0);
    daleAt("dale 0^\t1", 0);
    daleAt("dale 0 1^\0", 0);
    daleAt("dale 0 1^\u00ff", 0);
    daleAt("dale 0 1;^", 0);
    daleAt("dale 0 1;  ^", 0);
    daleAt("dale 0 1;^;", 0);
    daleAt("dale 0 1 ^1", 0);
    daleAt("dale 0 1 ^1234567", 0);
    daleAt("dale 0 1^keep 1 0", 0);
    daleAt("dale 0 1;^tell 1", 0);
    daleAt("dale 0 1;^7", 0);
    daleAt("dale ^10 1", 1);
    daleAt("dale ^000000 1", 1);
    daleAt("dale 0 ^0", 1);
    daleAt("dale 0 ^100", 1);
    daleAt("dale 0 ^100x", 1);
    daleAt("dale 0 1;keep ^0 0", 1);
    daleAt("dale 0 1;keep ^61 0", 1);
    daleAt("dale 0 1;keep 1 ^21", 1);
    daleAt("dale 0 1;keep 1 0;person ^1 0", 1);
    daleAt("dale 0 1;person ^0 0", 1);
    daleAt("dale 0 1;person ^0 0;keep 1 0", 1);
    daleAt("dale 0 1;keep 1 0;person 0 ^10", 1);
    daleAt("dale 0 1;field ^61", 1);
    daleAt("dale 0 1;keep 1 0;beside 0 ^0", 1);
    daleAt("dale 0 1;keep 1 0;beside ^1 0", 1);
    daleAt("dale 0 1;keep 1 0;beside 0 ^1;keep 1 0", 1);
    daleAt("^keep 1 0", 4);
    daleAt(" ^field", 4);
    daleAt("^beside 0 0", 4);
    daleAt("dale 0 1;^dale 0 1", 4);
    daleAt("dale 0 1;keep 1 0; ^dale", 4);
  }

  static void manyClauses() {
    String keeps = ";keep 1 0".repeat(6);
    dale("dale 0 1" + keeps, 6);
    daleAt("dale 0 1" + keeps + ";^keep", 4);
    daleAt("dale 0 1" + keeps + ";^keeps", 0);
    dale("dale 0 1;keep 1 0" + ";person 0 0".repeat(5), 1);
    daleAt("dale 0 1;keep 1 0" + ";person 0 0".repeat(5) + ";^person 9 9", 4);
    dale("dale 0 1" + ";field 0".repeat(4), 0);
    daleAt("dale 0 1" + ";field 0".repeat(4) + ";^field 99", 4);
    String most = "dale0 1" + ";keep1 0".repeat(6) + ";field0".repeat(4) + ";beside0 1".repeat(29);
    dale(most, 6);
    daleAt(most + ";^beside 0 0", 4);
    daleAt(most + ";^besides", 0);
    daleAt(most + ";^", 0);
    String full = "dale 0 1" + " ".repeat(392);
    dale(full, 0);
    daleAt("dale 0 1" + " ".repeat(391) + "^x", 0);
    daleAt("dale 0 1" + " ".repeat(391) + ";^", 0);
  }

  static void rules() {
    for (String word : "person keep tells full room heat cools beside others burnt night".split(" ")) {
      rule("tell " + word, 0);
      ruleAt("tell ^" + word + "z", 0);
    }
    rule("tell 0", 0);
    rule("  tell99999 ", 0);
    rule("tell 1;tell 2", 0);
    rule("tell 1if 2<3", 0);
    rule("tell 1 if [1=1]", 0);
    rule("tell 1 if not[not 1=1 and[2<=3or 3>=4]]or 1>2;tell 1+2-3*4/5%6", 0);
    ruleAt("^", 0);
    ruleAt("^dale 0 1", 0);
    ruleAt("^tells 1", 0);
    ruleAt("tell^", 0);
    ruleAt("tell ^;", 0);
    ruleAt("tell ^tell", 0);
    ruleAt("tell ^if 1=1", 0);
    ruleAt("tell ^x", 0);
    ruleAt("tell ^-1", 0);
    ruleAt("tell ^[1]", 0);
    ruleAt("tell 1^[", 0);
    ruleAt("tell 1 ^2", 0);
    ruleAt("tell 1 ^1234567", 0);
    ruleAt("tell 1;^", 0);
    ruleAt("tell 1 ^= 1", 0);
    ruleAt("tell 1 ^and", 0);
    ruleAt("tell 1 ^iff 1=1", 0);
    ruleAt("tell 5 %^", 0);
    ruleAt("tell 5 + ^+ 1", 0);
    ruleAt("tell 5 + ^not", 0);
    ruleAt("tell 1 if^", 0);
    ruleAt("tell 1 if ^;", 0);
    ruleAt("tell 1 if heat^", 0);
    ruleAt("tell 1 if heat ^and 1=1", 0);
    ruleAt("tell 1 if heat ^! 1", 0);
    ruleAt("tell 1 if heat = 1^]", 0);
    ruleAt("tell 1 if heat < ^= 1", 0);
    ruleAt("tell 1 if heat =^= 1", 0);
    ruleAt("tell 1 if heat =^> 1", 0);
    ruleAt("tell 1 if 1=1 ^=1", 0);
    ruleAt("tell 1 if 1=1 ^andx 1=1", 0);
    ruleAt("tell 1 if 1=1 and ^or", 0);
    ruleAt("tell 1 if 1=1 or^", 0);
    ruleAt("tell 1 if 1=1 ^if 1=1", 0);
    ruleAt("tell 1 if 1=1 ^not 1=1", 0);
    ruleAt("tell 1 if not^", 0);
    ruleAt("tell 1 if ^nott 1=1", 0);
    ruleAt("tell 1 if [^]", 0);
    ruleAt("tell 1 if [1=1^", 0);
    ruleAt("tell 1 if [1=1^;", 0);
    ruleAt("tell 1 if [1^]=1", 0);
    ruleAt("tell 1 if [1=1]^=1", 0);
    ruleAt("tell ^123456", 1);
    ruleAt("tell ^000001", 1);
    ruleAt("tell 1 if 1<^100000x", 1);
  }

  static void deepRules() {
    rule("tell 1 if " + "[".repeat(10) + "1=1" + "]".repeat(10), 0);
    rule("tell 1 if " + "not ".repeat(10) + "1=1", 0);
    rule("tell 1 if " + "not[".repeat(5) + "1=1" + "]".repeat(5) + " and " + "[not ".repeat(5) + "1=1" + "]".repeat(5), 0);
    ruleAt("tell 1 if " + "[".repeat(10) + "^[1=1", 2);
    ruleAt("tell 1 if " + "not ".repeat(10) + " ^not 1=1", 2);
    ruleAt("tell 1 if " + "not[".repeat(5) + "^[", 2);
    ruleAt("tell 1 if " + "[not ".repeat(5) + "^not", 2);
    ruleAt("tell 1 if " + "[not ".repeat(5) + "^nots", 0);
    ruleAt("tell 1 if " + "not[".repeat(5) + "1=1" + "]".repeat(4) + " or " + "not ".repeat(8) + "^not", 2);
    ruleAt("tell 1 if 1=1 and " + "not ".repeat(10) + "^]", 0);
  }

  static void manyValues() {
    rule("tell 1" + "+1".repeat(59), 0);
    ruleAt("tell 1" + "+1".repeat(59) + "+^1", 3);
    ruleAt("tell 1" + "+1".repeat(59) + "+^heat", 3);
    ruleAt("tell 1" + "+1".repeat(59) + "+^heats", 0);
    ruleAt("tell 1" + "+1".repeat(59) + "+^123456", 1);
    ruleAt("tell 1" + "+1".repeat(59) + "+^", 0);
    ruleAt("tell 1" + "+1".repeat(59) + " if ^1=1", 3);
    ruleAt("tell 1" + "+1".repeat(59) + ";tell ^1", 3);
    ruleAt("tell 1" + "+1".repeat(59) + " if ^x", 0);
    ruleAt("tell 1" + "+1".repeat(58) + " if 1^=1", 3);
    ruleAt("tell 1" + "+1".repeat(58) + " if 1 ^<=1", 3);
    ruleAt("tell 1" + "+1".repeat(58) + " if 1^!1", 0);
    ruleAt("tell 1" + "+1".repeat(57) + " if 1=^1", 3);
    rule("tell 1" + "+1".repeat(56) + " if 1=1", 0);
    rule("tell 1;".repeat(11) + "tell 1" + "+1".repeat(48), 0);
    ruleAt("tell 1;".repeat(11) + "tell 1" + "+1".repeat(48) + "+^1", 3);
    rule("tell 1;".repeat(11) + "tell 1", 0);
    ruleAt("tell 1;".repeat(12) + " ^tell", 4);
    ruleAt("tell 1;".repeat(12) + "^tells 1", 0);
    ruleAt("tell 1;".repeat(12) + "^", 0);
  }

  static void whatStays() {
    WinterKeep w = new WinterKeep();
    due.is("a DALE", Bytes.dale(w, "dale 3 4;keep 5 6;person 0 7"), 1);
    due.is("the TAPE is empty then", w.count(15), 0);
    w.night();
    w.note(1, 0, 5);
    due.is("a FAULT", Bytes.dale(w, "dale 1 2;keep 3"), fault(15, 0));
    due.is("the TAPE is empty behind a FAULT", w.count(15), 0);
    due.is("an empty TAPE has a FAULT", w.dale(), fault(0, 0));
    due.is("LEAK stays", w.count(0), 3);
    due.is("HOT stays", w.count(1), 4);
    due.is("the KEEP stays", w.keep(0, 0), 5);
    due.is("NIGHT stays", w.count(7), 1);
    due.is("the NOTE stays", w.count(12), 1);
    due.is("the ACT stays", w.count(13), 1);
    w.seed(77);
    due.is("a RULE", Bytes.rule(w, "tell 1"), 0);
    w.force(0);
    w.image(2);
    due.is("another DALE", Bytes.dale(w, "dale 1 2"), 0);
    due.is("no NOTES", w.count(12), 0);
    due.is("nothing to be UNDONE", w.undo(), -1);
    due.is("NIGHT 0", w.count(7), 0);
    due.is("no PEOPLE", w.count(3), 0);
    due.is("the RULE IN FORCE stays", w.count(6), 0);
    due.is("x stays", w.count(14), 77);
    due.is("the IMAGE stays", w.back(2), 1);
    due.is("a faulty RULE", Bytes.rule(w, "tell"), fault(4, 0));
    due.is("its TAPE is empty then", w.count(15), 0);
    due.is("an empty TAPE is no RULE", w.rule(), fault(0, 0));
    due.is("RULES", w.count(5), 1);
    for (int i = 1; i < 6; i++) due.is("RULE " + i, Bytes.rule(w, "tell " + i), i);
    due.is("a seventh", Bytes.rule(w, "tell 7"), -1);
    due.is("its TAPE stays", w.count(15), 6);
    due.is("RULES then", w.count(5), 6);
    due.is("a faulty seventh", Bytes.rule(w, "tell"), -1);
    due.is("its TAPE stays, too", w.count(15), 4);
    due.is("an empty seventh", Bytes.rule(w, ""), -1);
  }

  /** Nothing of a text with a FAULT stands ahead of the next one. */
  static void textsBehindFaults() {
    WinterKeep w = new WinterKeep();
    int[] good = Bytes.twenty("dale 1 9;field 3    ", 0);
    int[] bad = Bytes.twenty("dale 1 9;field 3   ;", 0);
    due.is("a faulty DALE comes", w.feed(bad[0], bad[1], bad[2], bad[3], bad[4]), 20);
    due.is("its FAULT", w.dale(), fault(20, 0));
    due.is("a good DALE comes", w.feed(good[0], good[1], good[2], good[3], good[4]), 20);
    due.is("it has no KEEPS", w.dale(), 0);
    due.is("it has a FIELD", w.count(4), 1);
    int[] rule = Bytes.twenty("tell 1 if night < 9 ", 0);
    due.is("a DALE comes again", w.feed(good[0], good[1], good[2], good[3], good[4]), 20);
    due.is("it is no RULE", w.rule(), fault(0, 0));
    due.is("a RULE comes", w.feed(rule[0], rule[1], rule[2], rule[3], rule[4]), 20);
    due.is("it is RULE 0", w.rule(), 0);
    for (int i = 0; i < 20; i++) w.feed(0, 0, 0, 0, 0);
    due.is("the TAPE is whole", w.feed(0, 0, 0, 0, 0), -1);
    due.is("it is no RULE", w.rule(), fault(0, 0));
    due.is("there is room again", w.feed(0, 0, 0, 0, 0), 20);
  }

  public static void main(String[] args) {
    textsBehindFaults();
    dales();
    manyClauses();
    rules();
    deepRules();
    manyValues();
    whatStays();
    due.end();
  }
}
