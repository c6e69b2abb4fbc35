/** Promise by promise, answers worked out by hand from the document. */
public final class PromisesTest {
  static final Due due = new Due("PromisesTest");

  /**
   * LEAK 2, HOT 9. Without a RULE:
   * NIGHT 0: KEEP 0 is told 6, overhears 2: 8, HEAT 2 - 1; KEEP 1 is told 12, HEAT 3; KEEP 2 nothing.
   * NIGHT 1: KEEP 0 is full (12), HEAT 1 + 3 - 1; KEEP 1 is full (20), HEAT 3 + 5.
   * NIGHT 2: KEEP 0 HEAT 5; KEEP 1 HEAT 13: BURNT. NIGHT 3: HEAT 7. NIGHT 4: HEAT 9: KEEP 0 is BURNT.
   */
  static final String DALE = "dale 2 9;keep 12 1;keep 20 0;keep 8 2;person 0 6;person 1 9;person 1 3;"
      + "field 5;field 20;beside 0 1";

  static WinterKeep with(String dale, String... rules) { return Given.dale(dale, rules); }
  static void nights(WinterKeep w, int n) { Given.nights(w, n); }

  static void promise1() {
    WinterKeep w = new WinterKeep();
    for (int i = 0; i < 16; i++) due.is("1: count " + i, w.count(i), i == 6 ? -1 : 0);
    due.is("1: no DALE", w.night(), -1);
    due.is("1: no RULE", w.force(0), -2);
    due.is("1: no IMAGE", w.back(0), -1);
  }

  static void promises2and3() {
    WinterKeep w = new WinterKeep();
    due.is("2: feed", w.feed(0x64616c65, 0x20302031, 0xff000000, 0, 0), 20);
    due.is("3: end", w.end(8), 8);
    due.is("3: beyond", w.end(9), -1);
    due.is("3: below 0", w.end(-1), -1);
    due.is("3: as it is", w.end(8), 8);
    due.is("4: the bytes in their order", w.dale(), 0);
    due.is("4: HOT", w.count(1), 1);
    for (int i = 1; i <= 19; i++) due.is("2: feed", w.feed(1, 2, 3, 4, 5), 20 * i);
    w.end(379);
    due.is("2: 399", w.feed(0, 0, 0, 0, 0), 399);
    due.is("2: no more", w.feed(0, 0, 0, 0, 0), -1);
    due.is("2: none came", w.count(15), 399);
    w.end(381);
    due.is("2: 401", w.feed(0, 0, 0, 0, 0), -1);
    w.end(380);
    due.is("2: 400", w.feed(0, 0, 0, 0, 0), 400);
    due.is("2: full", w.feed(0, 0, 0, 0, 0), -1);
    due.is("3: all", w.end(400), 400);
    due.is("3: beyond all", w.end(401), -1);
    due.is("3: least", w.end(Integer.MIN_VALUE), -1);
    due.is("3: none", w.end(0), 0);
    w.feed(0x80ff0102, 0, 0, 0, 0);
    due.is("2: a byte above 127", w.dale(), -3);
  }

  static void promise6() {
    WinterKeep w = new WinterKeep();
    due.is("6: none was", w.force(-1), -1);
    due.is("6: none such", w.force(0), -2);
    Bytes.rule(w, "tell 1");
    Bytes.rule(w, "tell 0");
    due.is("6: none was", w.force(1), -1);
    due.is("6: 1 was", w.force(0), 1);
    due.is("6: none such", w.force(2), -2);
    due.is("6: none such", w.force(-2), -2);
    due.is("6: stays", w.count(6), 0);
    due.is("6: 0 was", w.force(-1), 0);
    due.is("6: none", w.count(6), -1);
  }

  static void promises7to9() {
    WinterKeep w = with(DALE);
    int[][] keeps = {{12, 1, 0, 0, -1, 2}, {20, 0, 0, 0, -1, 1}, {8, 2, 0, 0, -1, 0}};
    for (int k = 0; k < 3; k++) for (int i = 0; i < 6; i++) due.is("7: keep " + k + " " + i, w.keep(k, i), keeps[k][i]);
    due.is("7: what", w.keep(0, 6), -3);
    due.is("7: what", w.keep(0, -1), -3);
    due.is("7: none such", w.keep(3, 0), -3);
    due.is("7: none such", w.keep(-1, 0), -3);
    due.is("8: KEEP", w.person(0, 0), 0);
    due.is("8: TELLS", w.person(0, 1), 6);
    due.is("8: KEEP", w.person(2, 0), 1);
    due.is("8: TELLS", w.person(2, 1), 3);
    due.is("8: what", w.person(0, 2), -1);
    due.is("8: what", w.person(0, -1), -1);
    due.is("8: none such", w.person(3, 0), -1);
    due.is("8: none such", w.person(-1, 0), -1);
    due.is("9: CROWS", w.field(1, 0), 20);
    due.is("9: no KEEP", w.field(1, 1), -1);
    due.is("9: nothing", w.field(1, 2), 0);
    nights(w, 2);
    w.carry(1, 0);
    due.is("7: FIELD", w.keep(1, 4), 0);
    due.is("7: FULL", w.keep(1, 2), 20);
    due.is("7: HEAT", w.keep(1, 3), 8);
    due.is("9: the KEEP", w.field(0, 1), 1);
    due.is("9: CROWS at most", w.field(0, 2), 5);
    w.carry(0, 1);
    due.is("9: as FULL at most", w.field(1, 2), 12);
    due.is("9: what", w.field(0, 3), -2);
    due.is("9: what", w.field(0, -1), -2);
    due.is("9: none such", w.field(2, 0), -2);
    due.is("9: none such", w.field(-1, 0), -2);
    w.fetch(1);
    nights(w, 1);
    due.is("7: BURNT", w.keep(1, 4), -2);
    due.is("7: empty", w.keep(1, 2), 0);
    due.is("7: cold", w.keep(1, 3), 0);
    due.is("7: ROOM", w.keep(1, 0), 20);
  }

  static void promise10() {
    WinterKeep w = with(DALE);
    int[][] after = {{8, 1, 12, 3}, {12, 3, 20, 8}, {12, 5, 0, 0}, {12, 7, 0, 0}, {0, 0, 0, 0}, {0, 0, 0, 0}};
    int[] bits = {0, 0, 2, 0, 1, 0};
    for (int n = 0; n < 6; n++) {
      due.is("10: night " + n, w.night(), bits[n]);
      for (int i = 0; i < 4; i++) due.is("10: night " + n + " keep " + i / 2, w.keep(i / 2, 2 + i % 2), after[n][i]);
      due.is("10: NIGHT", w.count(7), n + 1);
    }
    due.is("10: both BURNT", w.count(9), 3);
    w = with(DALE);
    w.carry(0, 1);
    w.night();
    due.is("10: in a FIELD nobody tells it", w.keep(0, 2), 0);
    w = with("dale 0 50;keep 60 2;person 0 9;field 0");
    nights(w, 4);
    due.is("10: HEAT 0, 2, 6, 13 less COOLS", w.keep(0, 3), 2 - 2 + 4 - 2 + 6 - 2 + 9 - 2);
    w.carry(0, 0);
    w.night();
    due.is("10: twice in a FIELD", w.keep(0, 3), 13 + 9 - 4);
    w = with("dale 3 99;keep 60 20;keep 60 20;keep 60 20;keep 5 20;person 0 3;person 1 4;person 2 9;beside 0 1;beside 0 2;beside 1 2;beside 3 2;beside 3 1");
    w.night();
    due.is("10: 9 - 3 is more than LEAK, 4 - 3 not", w.keep(0, 2), 6);
    due.is("10: 9 - 4", w.keep(1, 2), 7);
    due.is("10: none FULLER", w.keep(2, 2), 9);
    due.is("10: two FULLER, ROOM at most", w.keep(3, 2), 5);
    w = with("dale 3 99;keep 60 20;keep 60 20;person 0 3;beside 0 1");
    w.night();
    due.is("10: by LEAK alone: nothing", w.keep(1, 2), 0);
    w = with("dale 0 1;keep 1 0");
    nights(w, 400);
    for (int i = 0; i < 6; i++) nights(w, 99);
    due.is("10: 994", w.count(7), 994);
    nights(w, 5);
    due.is("10: 999", w.night(), -1);
    due.is("10: 999 stays", w.count(7), 999);
    due.is("17: asked beyond", w.ring(0), 999);
    due.is("16: asked beyond", w.ahead(0, 9, 0), 0);
  }

  /** Whether a PERSON tells by a RULE in a DALE where the first NIGHTS are plain. */
  static void tells(String rule, boolean want) {
    WinterKeep w = with("dale 0 99;keep 40 20;keep 30 7;person 1 5;person 0 4;person 1 6", rule);
    w.force(0);
    w.night();
    due.is("5: 0 tells by '" + rule + "'", w.keep(0, 2) > 0 ? 1 : 0, want ? 1 : 0);
  }

  static void promise5() {
    String[] yes = {"2+3*4=14", "10-3-2=5", "7/2=3", "7%4=3", "7/0=0", "7%0=0", "8/2/2=2", "2*7%4=2", "1<2", "1<=1", "1>=1",
      "2>1", "1=1", "not 1=2", "not not 1=1", "1=2 or 1=1 and 2=2", "1=1 or 1=1 and 1=2", "not 1=2 and 1=1",
      "not [1=2 and 1=1]", "[1=2 or 1=1] and 1=1", "0-7/2=0-3", "00010=10",
      "99999*99999*99999*99999*2<0", "99999*99999*99999*99999*2%10+4=0",
      "99999*99999*99999*99999*2/99999*99999<99999*99999*99999*99999*2+99999",
      "99999*99999*99999*99999*2/99999*99999>=99999*99999*99999*99999*2",
      "person=1 and keep=0 and tells=4 and room=40 and cools=20 and others=0", "full=0", "heat=0", "night=0",
      "beside=0", "burnt=0"};
    String[] no = {"1>1", "1<1", "2<=1", "1>=2", "1=2", "not 1=1", "[1=1 or 1=1] and 1=2", "1=2 and 1=1 or 1=2",
      "not 1=1 or 1=2", "not [1=2 or 1=1]"};
    for (String test : yes) { tells("tell 1 if " + test, true); tells("tell 0 if " + test + ";tell 1", false); }
    for (String test : no) { tells("tell 1 if " + test, false); tells("tell 0 if " + test + ";tell 1", true); }
    tells("tell 0", false);
    tells("tell 0-1", false);
    tells("tell 1;tell 0", true);
    tells("tell 99999*99999*99999*99999*2", false);
    tells("tell 1 if 1=2;tell 1 if 1=1;tell 0", true);
    tells("tell 0 if 1=1;tell 1 if 1=1", false);

    WinterKeep w = with(DALE, "tell 1 if full = 0", "tell others*tells-26", "tell 1 if keep=1 and full>=9",
        "tell night", "tell 1-burnt", "tell beside");
    w.force(0);
    w.night();
    due.is("5: by how all is then, the second not", w.keep(1, 2), 9);
    w.undo();
    w.force(1);
    w.night();
    due.is("5: others * tells", w.keep(1, 2), 0);
    w.undo();
    w.force(2);
    w.night();
    due.is("5: neither", w.count(8), 0);
    w.force(3);
    w.undo();
    w.night();
    due.is("5: night 0", w.count(8), 0);
    w.night();
    due.is("5: night 1", w.count(8), 20);
    w.force(-1);
    nights(w, 2);
    due.is("5: KEEP 1 is BURNT", w.count(9), 2);
    w.air(0);
    w.force(4);
    w.night();
    due.is("5: burnt", w.keep(0, 2), 6);
    w.force(5);
    w.night();
    due.is("5: none at HOME beside", w.keep(0, 2), 6);
    w = with(DALE, "tell beside", "tell heat", "tell full-room+12", "tell cools");
    w.force(0);
    w.night();
    due.is("5: one at HOME beside", w.keep(0, 2), 8);
    w.undo();
    w.carry(1, 0);
    w.night();
    due.is("5: it is in a FIELD", w.keep(0, 2), 0);
    w.undo();
    w.undo();
    w.force(1);
    w.night();
    due.is("5: no HEAT", w.count(8), 0);
    w.force(-1);
    w.night();
    w.force(1);
    w.night();
    due.is("5: HEAT", w.keep(0, 2) + w.keep(1, 2), 32);
  }

  static void promises11to14() {
    WinterKeep w = with(DALE);
    due.is("11: empty and cold", w.air(0), -1);
    nights(w, 2);
    due.is("11: half", w.air(0), 6);
    due.is("11: half the HEAT", w.keep(0, 3), 1);
    due.is("11: half", w.air(0), 3);
    due.is("11: downwards", w.air(0), 1);
    due.is("11: to 0", w.air(0), 0);
    due.is("11: no more", w.air(0), -1);
    due.is("11: none such", w.air(3), -1);
    due.is("11: none such", w.air(-1), -1);
    due.is("12: CROWS at most", w.carry(1, 0), 5);
    due.is("11: not at HOME", w.air(1), -1);
    due.is("12: not at HOME", w.carry(1, 1), -1);
    due.is("12: has one", w.carry(2, 0), -1);
    due.is("12: empty", w.carry(2, 1), 0);
    due.is("12: no FIELD", w.carry(0, 2), -1);
    due.is("12: no FIELD", w.carry(0, -1), -1);
    due.is("12: no KEEP", w.carry(3, 1), -1);
    due.is("12: no KEEP", w.carry(-1, 1), -1);
    due.is("13: FIELD", w.fetch(2), 1);
    due.is("13: at HOME", w.fetch(2), -1);
    due.is("13: FIELD", w.fetch(1), 0);
    due.is("13: none such", w.fetch(3), -1);
    due.is("13: none such", w.fetch(-1), -1);
    due.is("12: as FULL", w.carry(1, 1), 20);
    w.fetch(1);
    due.is("14: not", w.seat(1, 0), 0);
    due.is("7: not", w.keep(0, 5), 0);
    due.is("14: are", w.seat(2, 1), 1);
    due.is("7: are", w.keep(1, 5), 4);
    due.is("7: are", w.keep(2, 5), 2);
    due.is("14: are", w.seat(0, 1), 1);
    due.is("14: unlike", w.seat(1, 1), -1);
    due.is("14: none such", w.seat(0, 3), -1);
    due.is("14: none such", w.seat(-1, 0), -1);
    nights(w, 1);
    due.is("10: BURNT", w.count(9), 2);
    due.is("11: BURNT", w.air(1), -1);
    due.is("12: BURNT", w.carry(1, 0), -1);
    due.is("13: BURNT", w.fetch(1), -1);
    due.is("14: BURNT", w.seat(0, 1), 0);
    w = with("dale 0 99;keep 3 0;keep 60 0;person 1 9");
    w.night();
    w.air(1);
    due.is("11: HEAT 2, half of it", w.keep(1, 3), 1);
    w = with("dale 0 99;keep 4 0;person 0 4");
    nights(w, 4);
    due.is("11: as FULL as hot", w.air(0), 2);
    w = with("dale 9 9;keep 20 0;person 0 8");
    w.night();
    for (int i = 0; i < 3; i++) w.air(0);
    due.is("11: FULL 1 is half 0", w.air(0), 0);
    due.is("11: nothing changes by it", w.count(13), 5);
  }

  static void promise15() {
    WinterKeep w = with(DALE);
    due.is("15: none", w.undo(), -1);
    w.seat(0, 2);
    w.carry(2, 1);
    w.night();
    w.air(1);
    w.fetch(2);
    w.air(7);
    w.force(-1);
    w.seed(5);
    w.note(0, 0, 0);
    due.is("34: ACTS", w.count(13), 5);
    due.is("15: fetch", w.undo(), 4);
    due.is("15: in the FIELD", w.keep(2, 4), 1);
    due.is("15: air", w.undo(), 3);
    due.is("15: FULL", w.keep(1, 2), 12);
    due.is("15: HEAT", w.keep(1, 3), 3);
    due.is("15: night", w.undo(), 2);
    due.is("15: NIGHT", w.count(7), 0);
    due.is("15: empty", w.count(8), 0);
    due.is("15: carry", w.undo(), 1);
    due.is("15: HOME", w.count(10), 7);
    due.is("15: seat", w.undo(), 0);
    due.is("15: not BESIDE", w.keep(2, 5), 0);
    due.is("15: no more", w.undo(), -1);
    due.is("15: x stays", w.count(14), 5);
    due.is("15: NOTES stay", w.count(12), 1);
    nights(w, 23);
    due.is("15: 20 at most", w.count(13), 20);
    for (int i = 19; i >= 0; i--) due.is("15: undo", w.undo(), i);
    due.is("15: no more than 20", w.undo(), -1);
    due.is("15: NIGHT 3", w.count(7), 3);
    due.is("15: as it was", w.keep(0, 3), 5);
    nights(w, 2);
    w.undo();
    w.seat(0, 1);
    due.is("15: one undone, one more", w.count(13), 2);
  }

  static void promises16to18() {
    WinterKeep w = with(DALE);
    due.is("16: now", w.ahead(0, 0, 0), 0);
    due.is("16: FULL", w.ahead(0, 1, 0), 8);
    due.is("16: HEAT", w.ahead(0, 1, 1), 1);
    due.is("16: HEAT", w.ahead(1, 2, 1), 8);
    due.is("16: BURNT", w.ahead(1, 3, 0), 0);
    due.is("16: BURNT", w.ahead(0, 3, 2), 2);
    due.is("16: KEEP not asked", w.ahead(-9, 100, 2), 3);
    due.is("16: n", w.ahead(0, 101, 2), -1);
    due.is("16: n", w.ahead(0, -1, 2), -1);
    due.is("16: what", w.ahead(0, 1, 3), -1);
    due.is("16: what", w.ahead(0, 1, -1), -1);
    due.is("16: none such", w.ahead(3, 1, 0), -1);
    due.is("16: none such", w.ahead(-1, 1, 1), -1);
    due.is("16: no DALE", new WinterKeep().ahead(0, 0, 2), -1);
    due.is("17: NIGHT", w.burns(0), 2);
    due.is("17: which", w.burns(1), 1);
    due.is("17: what", w.burns(2), -1);
    due.is("17: what", w.burns(-1), -1);
    due.is("17: no DALE", new WinterKeep().burns(0), -1);
    due.is("18: NIGHT", w.full(0), 1);
    due.is("18: NIGHT", w.full(1), 1);
    due.is("18: none", w.full(2), -2);
    due.is("18: none such", w.full(3), -1);
    due.is("18: none such", w.full(-1), -1);
    due.is("34: nothing changes", w.count(7) + w.count(8) + w.count(13), 0);
    nights(w, 3);
    due.is("17: NIGHT of all", w.burns(0), 4);
    due.is("17: which", w.burns(1), 0);
    due.is("18: NIGHT of all", w.full(0), 3);
    due.is("18: BURNT", w.full(1), -2);
    nights(w, 2);
    due.is("17: none", w.burns(0), -2);
    due.is("17: none", w.burns(1), -2);
    w = with("dale 0 5;keep 8 0;keep 8 0;keep 8 0;person 2 8;person 1 8");
    due.is("17: HEAT 2, 4, 6", w.burns(0), 2);
    due.is("17: the least of that NIGHT", w.burns(1), 1);
    String slow = "dale 0 99;keep 60 0;person 0 1;keep 60 20;person 1 1";
    w = with(slow, "tell 1 if night = 199 and person = 1;tell 1 if full < 59 and person = 1");
    w.force(0);
    due.is("18: the last of 200", w.full(1), 199);
    w.night();
    due.is("18: not the first", w.full(1), 199);
    w = with(slow, "tell 1 if night = 200 and person = 1;tell 1 if full < 59 and person = 1");
    w.force(0);
    due.is("18: beyond 200", w.full(1), -2);
    w.night();
    due.is("18: within 200", w.full(1), 200);
    w = with("dale 0 1;keep 4 0;person 0 4", "tell 1 if night = 199", "tell 1 if night = 200");
    w.force(0);
    due.is("17: the last of 200", w.burns(0), 199);
    w.force(1);
    due.is("17: beyond 200", w.burns(0), -2);
  }

  static void promises19and20() {
    WinterKeep w = with(DALE);
    due.is("19: nothing", w.placing(-1), 0);
    due.is("19: stays", w.placing(0), -1);
    nights(w, 2);
    due.is("19: 20 in FIELD 1, 5 in FIELD 0", w.placing(-1), 25);
    due.is("19: KEEP 0", w.placing(0), 0);
    due.is("19: KEEP 1", w.placing(1), 1);
    due.is("19: KEEP 2", w.placing(2), -1);
    due.is("19: none such", w.placing(3), -2);
    due.is("19: none such", w.placing(5), -2);
    due.is("19: what", w.placing(6), -3);
    due.is("19: what", w.placing(-2), -3);
    due.is("19: no DALE", new WinterKeep().placing(-1), -3);
    due.is("19: no DALE", new WinterKeep().placing(0), -3);
    w.carry(1, 0);
    due.is("19: FIELD 0 does not count", w.placing(-1), 12);
    due.is("19: in a FIELD, stays", w.placing(1), -1);
    due.is("19: FIELD 1", w.placing(0), 1);
    w = with("dale 0 99;keep 9 9;keep 9 9;keep 9 9;person 0 4;person 1 4;person 2 4;field 4;field 0;field 9");
    w.night();
    due.is("19: both", w.placing(-1), 8);
    due.is("19: at HOME ahead", w.placing(0), -1);
    due.is("19: FIELD 0 ahead", w.placing(1), 0);
    due.is("19: the other", w.placing(2), 2);
    w = with(DALE);
    due.is("20: now", w.spring(0, 0), 0);
    due.is("20: now", w.spring(0, 1), 0);
    due.is("20: 12 + 5", w.spring(1, 1), 17);
    due.is("20: two", w.spring(60, 0), 2);
    due.is("20: 20 + 5", w.spring(60, 1), 25);
    due.is("20: n", w.spring(61, 0), -1);
    due.is("20: n", w.spring(-1, 0), -1);
    due.is("20: what", w.spring(0, 2), -1);
    due.is("20: what", w.spring(0, -1), -1);
    due.is("20: no DALE", new WinterKeep().spring(0, 0), -1);
    nights(w, 1);
    due.is("20: from now", w.spring(60, 0), 1);
  }

  static void promises21and22() {
    WinterKeep w = with("dale 0 2;keep 8 0;keep 8 9;keep 8 9;keep 8 9;keep 8 9;person 0 8;field 0;"
        + "beside 0 1;beside 1 2;beside 2 3;beside 3 4;beside 4 0");
    due.is("21: a ring of five", w.apart(-1), 3);
    int[] bench = {0, 1, 0, 1, 2, -2};
    for (int k = 0; k < 6; k++) due.is("21: bench " + k, w.apart(k), bench[k]);
    due.is("21: what", w.apart(6), -3);
    due.is("21: what", w.apart(-2), -3);
    due.is("21: no DALE", new WinterKeep().apart(-1), -3);
    due.is("22: two", w.clash(0), 2);
    due.is("22: the least", w.clash(1), 3);
    due.is("22: what", w.clash(2), -1);
    due.is("22: what", w.clash(-1), -1);
    due.is("22: no DALE", new WinterKeep().clash(0), -1);
    w.seat(1, 3);
    due.is("22: three", w.clash(0), 3);
    due.is("22: set", w.clash(1), 14);
    w.carry(2, 0);
    due.is("22: in a FIELD too", w.clash(1), 14);
    due.is("21: in a FIELD too", w.apart(2), 0);
    due.is("21: beside 1 and 2", w.apart(3), 2);
    w.night();
    due.is("21: BURNT", w.apart(0), -1);
    due.is("21: 1 first", w.apart(1), 0);
    due.is("21: 4 beside 3", w.apart(4), 0);
    w = with("dale 0 1");
    due.is("21: no KEEPS", w.apart(-1), 0);
    due.is("22: no KEEPS", w.clash(0), 0);
    due.is("22: no KEEPS", w.clash(1), 0);
    w = with("dale 0 1;keep 4 0;keep 4 0");
    due.is("21: one bench", w.apart(-1), 1);
    due.is("22: one alone", w.clash(0), 1);
    due.is("22: the least", w.clash(1), 1);
    w = with("dale 0 1;keep 1 0;keep 1 0;keep 1 0;keep 1 0;keep 1 0;keep 1 0;beside 0 1;beside 0 2;beside 0 3;"
        + "beside 0 4;beside 0 5;beside 1 2;beside 1 3;beside 1 4;beside 1 5;beside 2 3;beside 2 4;beside 2 5;"
        + "beside 3 4;beside 3 5;beside 4 5");
    due.is("21: six", w.apart(-1), 6);
    for (int k = 0; k < 6; k++) due.is("21: each its own", w.apart(k), k);
    due.is("22: six", w.clash(0), 6);
    due.is("22: all", w.clash(1), 63);
    w = with("dale 0 1;keep 1 0;keep 1 0;keep 1 0;keep 1 0;beside 0 3;beside 3 2;beside 2 1");
    due.is("21: two, though least first would need three", w.apart(-1), 2);
    due.is("21: KEEP 1", w.apart(1), 1);
    due.is("21: KEEP 2", w.apart(2), 0);
    due.is("21: KEEP 3", w.apart(3), 1);
  }

  static void promises23and24() {
    WinterKeep w = with(DALE);
    due.is("23: in 2 NIGHTS none is BURNT: nobody", w.silent(2, 0), -1);
    due.is("23: none", w.silent(2, 1), 0);
    due.is("23: 12 + 20", w.silent(2, 2), 32);
    // Without 1: KEEP 1 has 3, 8, 13, 18: HEAT 0, 2, 5, 9 in NIGHT 3; KEEP 0 6, 12, 12.
    due.is("23: in 3 NIGHTS without 1", w.silent(3, 0), 1);
    due.is("23: none", w.silent(3, 1), 0);
    due.is("23: n", w.silent(0, 0), -2);
    due.is("23: n", w.silent(41, 0), -2);
    due.is("23: what", w.silent(1, 3), -2);
    due.is("23: what", w.silent(1, -1), -2);
    due.is("23: no DALE", new WinterKeep().silent(1, 0), -2);
    w = with("dale 0 9;keep 9 9;person 0 5;person 0 0;person 0 5");
    due.is("23: 1 tells nothing, nobody first", w.silent(1, 0), -1);
    w = with("dale 0 2;keep 20 0;person 0 5;person 0 5");
    due.is("23: both at once burn, the least", w.silent(1, 0), 0);
    due.is("23: how FULL", w.silent(1, 2), 5);
    w.night();
    due.is("23: BURNT before counts", w.silent(1, 1), 1);
    due.is("24: BURNT now", w.most(0, 1), -1);
    w = with(DALE);
    due.is("24: in 1 NIGHT", w.most(0, 1), 9);
    due.is("24: n", w.most(0, 0), -1);
    due.is("24: n", w.most(0, 61), -1);
    due.is("24: none such", w.most(3, 1), -1);
    due.is("24: none such", w.most(-1, 1), -1);
    w = with("dale 0 3;keep 60 0;person 0 1;person 0 2");
    due.is("24: 9 + 2 is 11, HEAT 2", w.most(0, 1), 9);
    due.is("24: HEAT of 3, 6 is 1, of 4, 8 is 3", w.most(0, 2), 1);
    due.is("24: HEAT of 2, 4, 6 is 2", w.most(0, 3), 0);
    due.is("24: HEAT of 2, 4, 6, 8 is 4", w.most(0, 4), -2);
    w = with("dale 0 3;keep 60 0;person 0 9", "tell 5-tells");
    w.force(0);
    due.is("24: tells in place of what it is", w.most(0, 60), 9);
    due.is("8: TELLS stays", w.person(0, 1), 9);
  }

  static void promises25and26() {
    WinterKeep w = with("dale 0 99;keep 10 20;person 0 4");
    due.is("25: 3 alone", w.had(0, 1, 7, 0), 1);
    due.is("25: 3", w.had(0, 1, 7, 1), 3);
    due.is("25: 6 to 10", w.had(0, 1, 10, 0), 5);
    due.is("25: 6", w.had(0, 1, 10, 1), 6);
    due.is("25: none", w.had(0, 1, 3, 0), 0);
    due.is("25: none", w.had(0, 1, 3, 1), -2);
    due.is("25: two NIGHTS", w.had(0, 2, 10, 0), 9);
    due.is("25: beyond its ROOM", w.had(0, 2, 60, 0), 0);
    due.is("25: number", w.had(0, 1, 61, 0), -1);
    due.is("25: number", w.had(0, 1, -1, 0), -1);
    due.is("25: n", w.had(0, 0, 1, 0), -1);
    due.is("25: n", w.had(0, 41, 1, 0), -1);
    due.is("25: what", w.had(0, 1, 1, 2), -1);
    due.is("25: what", w.had(0, 1, 1, -1), -1);
    due.is("25: none such", w.had(1, 1, 1, 0), -1);
    due.is("25: none such", w.had(-1, 1, 1, 0), -1);
    due.is("25: FULL stays", w.keep(0, 2), 0);
    w = with("dale 0 2;keep 9 0");
    due.is("25: 0, not the two by which it is BURNT", w.had(0, 1, 0, 0), 1);
    due.is("25: 7", w.had(0, 1, 7, 1), 7);
    due.is("25: 8 is BURNT", w.had(0, 1, 8, 0), 0);
    w = with("dale 0 1;keep 9 0;person 0 9");
    w.night();
    due.is("25: BURNT", w.had(0, 1, 0, 0), -1);

    // One NIGHT, one KEEP each, HEAT of 9 is 2: BURNT; 6 is best for both.
    w = with("dale 0 2;keep 60 0;keep 60 0;person 0 1;person 1 1;field 1");
    due.is("26: one", w.rests(0, 1, 1, 0), 1);
    due.is("26: 6", w.rests(0, 1, 1, 1), 6);
    due.is("26: 6", w.rests(0, 1, 1, 2), 6);
    // In a FIELD neither matters for 0: four rests.
    w.carry(0, 0);
    due.is("26: four", w.rests(0, 1, 1, 0), 4);
    due.is("26: first", w.rests(0, 1, 1, 1), 0);
    due.is("26: first", w.rests(0, 1, 1, 2), 6);
    due.is("26: the other way round", w.rests(1, 0, 1, 1), 6);
    due.is("26: the other way round", w.rests(1, 0, 1, 2), 0);
    due.is("26: unlike", w.rests(1, 1, 1, 0), -1);
    due.is("26: none such", w.rests(0, 2, 1, 0), -1);
    due.is("26: none such", w.rests(-1, 0, 1, 0), -1);
    due.is("26: n", w.rests(0, 1, 0, 0), -1);
    due.is("26: n", w.rests(0, 1, 21, 0), -1);
    due.is("26: what", w.rests(0, 1, 1, 3), -1);
    due.is("26: what", w.rests(0, 1, 1, -1), -1);
    w = with("dale 9 99;keep 60 20;keep 60 20;person 0 1;person 1 1;beside 0 1");
    due.is("26: more is always more", w.rests(0, 1, 1, 1) * 10 + w.rests(0, 1, 1, 2), 99);
    w = with("dale 4 8;keep 14 0;keep 29 1;person 0 9;person 1 0;beside 0 1", "tell 1 if full<8 or full>tells");
    w.force(0);
    due.is("26: none", w.rests(0, 1, 4, 0), 0);
    due.is("26: none", w.rests(0, 1, 4, 1), -2);
    due.is("26: none", w.rests(0, 1, 4, 2), -2);
    // One KEEP for both, 8 is BURNT: 0 6, 3 3, 6 0, and 9 9, which neither alone can mend.
    w = with("dale 0 2;keep 60 0;person 0 1;person 0 1");
    due.is("26: of one KEEP", w.rests(0, 1, 1, 0), 4);
    due.is("26: first", w.rests(0, 1, 1, 1), 0);
    due.is("26: first", w.rests(0, 1, 1, 2), 6);
  }

  static void promises27and28() {
    WinterKeep w = with(DALE);
    due.is("27: from NIGHT 5 on all is the same", w.ring(0), 5);
    due.is("27: 1 later", w.ring(1), 1);
    due.is("27: what", w.ring(2), -1);
    due.is("27: what", w.ring(-1), -1);
    due.is("27: no DALE", new WinterKeep().ring(0), -1);
    nights(w, 3);
    due.is("27: NIGHT of all", w.ring(0), 5);
    w = with("dale 0 99;keep 60 0;person 0 1", "tell night-59", "tell 60-night");
    w.force(0);
    due.is("27: now", w.ring(0), 0);
    due.is("27: 1 later", w.ring(1), 1);
    w.force(1);
    // HEAT is 98 behind NIGHT 28, 105 in NIGHT 29: BURNT, and all is the same from NIGHT 30 on.
    due.is("27: BURNT", w.ring(0), 30);
    due.is("27: BURNT", w.ring(1), 1);
    w = with("dale 0 99;keep 60 20;person 0 1");
    due.is("27: FULL 59 at the begin of 59, 60 at 60", w.ring(0), -2);
    due.is("27: none", w.ring(1), -2);
    w.night();
    due.is("27: the last", w.ring(0), 60);
    due.is("27: the last", w.ring(1), 1);
    w = with("dale 0 1");
    due.is("27: no KEEPS", w.ring(0) * 10 + w.ring(1), 1);

    w = with("dale 0 99;keep 9 20;keep 9 20;keep 9 20;person 0 1;person 1 2;person 2 4");
    due.is("28: all empty", w.pence(100, 0), 0);
    w.night();
    // 10 by 7: 10/7 rest 3, 20/7 rest 6, 40/7 rest 5: 1, 2, 5 and two left for 1 and 2.
    due.is("28: KEEP 0", w.pence(10, 0), 1);
    due.is("28: KEEP 1", w.pence(10, 1), 3);
    due.is("28: KEEP 2", w.pence(10, 2), 6);
    due.is("28: none", w.pence(0, 2), 0);
    due.is("28: most", w.pence(9999, 0) + w.pence(9999, 1) + w.pence(9999, 2), 9999);
    due.is("28: much", w.pence(10000, 0), -1);
    due.is("28: much", w.pence(-1, 0), -1);
    due.is("28: none such", w.pence(1, 3), -1);
    due.is("28: none such", w.pence(1, -1), -1);
    w = with("dale 0 99;keep 9 20;keep 9 20;keep 9 20;keep 9 20;person 1 3;person 2 3;person 3 3");
    w.night();
    due.is("28: an empty one", w.pence(2, 0), 0);
    due.is("28: the least first", w.pence(2, 1), 1);
    due.is("28: the least first", w.pence(2, 2), 1);
    due.is("28: the last none", w.pence(2, 3), 0);
  }

  static void promises29to31() {
    WinterKeep w = with("dale 0 99;keep 60 20;keep 60 20;person 0 2;person 1 3",
        "tell 1 if person = 0", "tell 1 if night < 1", "tell 0", "tell 1 if person = 1");
    due.is("30: all five", w.ruled(0), 5);
    due.is("30: none first", w.ruled(1), -1);
    // At the begin of NIGHT 2: none 4 6, RULE 0: 4 0, 1: 2 3, 2: 0 0, 3: 0 6.
    due.is("31: KEEP 0 parts 2 1 2, KEEP 1 2 2 1: the least", w.look(2, 0), 0);
    due.is("31: two", w.look(2, 1), 2);
    due.is("31: at the begin all are alike", w.look(0, 1), 5);
    due.is("29: a NOTE", w.note(2, 0, 4), 1);
    due.is("30: none and 0", w.ruled(0), 2);
    due.is("30: none", w.ruled(1), -1);
    due.is("31: by KEEP 1", w.look(2, 0), 1);
    due.is("31: one", w.look(2, 1), 1);
    due.is("29: another", w.note(1, 1, 0), 2);
    due.is("30: 0 alone", w.ruled(0), 1);
    due.is("30: 0", w.ruled(1), 0);
    due.is("31: one", w.look(60, 0) * 10 + w.look(60, 1), 1);
    due.is("29: a third", w.note(0, 0, 1), 3);
    due.is("30: none so", w.ruled(0), 0);
    due.is("30: none so", w.ruled(1), -2);
    due.is("31: none so", w.look(0, 0), -2);
    due.is("31: none so", w.look(0, 1), -2);
    due.is("29: none then", w.note(-1, -5, -5), 0);
    due.is("30: all again", w.ruled(0), 5);
    due.is("29: n", w.note(61, 0, 0), -2);
    due.is("29: n", w.note(-2, 0, 0), -2);
    due.is("29: KEEP", w.note(0, 2, 0), -2);
    due.is("29: KEEP", w.note(0, -1, 0), -2);
    due.is("29: much", w.note(0, 0, 61), -2);
    due.is("29: much", w.note(0, 0, -1), -2);
    due.is("29: none came", w.count(12), 0);
    for (int i = 1; i <= 10; i++) due.is("29: " + i, w.note(60, 1, 60), i);
    due.is("29: 11", w.note(60, 1, 60), -2);
    due.is("29: none is 10", w.count(12), 10);
    due.is("30: by the last NIGHT", w.ruled(0), 2);
    due.is("30: the first", w.ruled(1), -1);
    w.note(-1, 0, 0);
    w.note(1, 0, 2);
    w.note(1, 1, 3);
    w.note(2, 1, 3);
    due.is("30: 1 alone", w.ruled(1) * 10 + w.ruled(0), 11);
    due.is("30: what", w.ruled(2), -3);
    due.is("30: what", w.ruled(-1), -3);
    due.is("30: no DALE", new WinterKeep().ruled(0), -3);
    due.is("31: n", w.look(61, 0), -1);
    due.is("31: n", w.look(-1, 0), -1);
    due.is("31: what", w.look(0, 2), -1);
    due.is("31: what", w.look(0, -1), -1);
    due.is("31: no DALE", new WinterKeep().look(0, 0), -1);
    due.is("31: no KEEPS", with("dale 0 1").look(0, 0), -2);
    due.is("29: no DALE", new WinterKeep().note(0, 0, 0), -2);
    w = with(DALE);
    w.note(1, 0, 8);
    w.seat(0, 1);
    w.carry(1, 0);
    w.night();
    due.is("30: as the text told it", w.ruled(0), 1);
  }

  static void promises32and33() {
    WinterKeep w = with("dale 0 3;keep 4 0;person 0 4");
    due.is("32: 0 at first", w.seed(5), 0);
    due.is("32: below 0", w.seed(-1), -1);
    due.is("32: was", w.seed(2147483647), 5);
    due.is("34: x", w.count(14), 2147483647);
    w.seed(0);
    // DRAWS from x 0, mod 100: 0 68 88 17 98 27 45 41 22 10; HEAT is 1 more in each NIGHT.
    due.is("33: no frost: BURNT in the third", w.frosts(1, 3, 0, 0), 1);
    due.is("33: HEAT 2 after two", w.frosts(1, 2, 0, 1), 4);
    due.is("33: 0 is not below 0, but below 1: ahead of the first alone", w.frosts(1, 3, 1, 0), 1);
    // p 20: 0 (68), then 88, then 17 (98), then 27, 45: BURNT in the fifth.
    due.is("33: p 20", w.frosts(1, 4, 20, 0), 0);
    due.is("33: p 20", w.frosts(1, 5, 20, 0), 1);
    // Then, from 27, 45, 41 on, BURNT in the third.
    due.is("33: the second time draws on", w.frosts(2, 3, 20, 0), 1);
    due.is("33: FULL of the first time", w.frosts(2, 3, 20, 1), 4);
    due.is("33: frost each NIGHT", w.frosts(10, 60, 100, 0), 0);
    due.is("33: FULL all together", w.frosts(10, 60, 100, 1), 40);
    due.is("33: x as it was", w.count(14), 0);
    due.is("33: m", w.frosts(0, 1, 1, 0), -1);
    due.is("33: m", w.frosts(11, 1, 1, 0), -1);
    due.is("33: n", w.frosts(1, 0, 1, 0), -1);
    due.is("33: n", w.frosts(1, 61, 1, 0), -1);
    due.is("33: p", w.frosts(1, 1, -1, 0), -1);
    due.is("33: p", w.frosts(1, 1, 101, 0), -1);
    due.is("33: what", w.frosts(1, 1, 1, 2), -1);
    due.is("33: what", w.frosts(1, 1, 1, -1), -1);
    due.is("33: no DALE", new WinterKeep().frosts(1, 1, 1, 0), -1);
    due.is("33: no KEEPS", with("dale 0 1").frosts(10, 60, 100, 0), 0);
    WinterKeep two = with("dale 0 3;keep 4 0;keep 4 0;person 0 4;person 1 4");
    // DRAWS 21468 and 3498 are both KEEP 0: KEEP 1 is BURNT in the third.
    due.is("33: of two KEEPS", two.frosts(1, 3, 20, 0), 1);
    due.is("33: of two KEEPS", two.frosts(1, 3, 20, 1), 4);
    // From x 1: 16838, 5758, 10113: 38 is not below 20, 58 neither, 13 is: KEEP 17515 mod 2.
    two.seed(1);
    due.is("33: from another x", two.frosts(1, 3, 20, 1), 4);
    w.night();
    due.is("33: from now on", w.frosts(3, 2, 0, 0), 3);
    due.is("33: nothing stays", w.keep(0, 3), 1);
  }

  static void promise34() {
    WinterKeep w = with(DALE, "tell 1", "tell 2");
    w.force(1);
    nights(w, 2);
    w.carry(0, 0);
    w.seed(9);
    w.note(3, 1, 4);
    w.feed(0, 0, 0, 0, 0);
    int[] want = {2, 9, 3, 3, 2, 2, 1, 2, 32, 0, 6, 5, 1, 3, 9, 20};
    for (int i = 0; i < 16; i++) due.is("34: count " + i, w.count(i), want[i]);
    due.is("34: others", w.count(16), -1);
    due.is("34: others", w.count(-1), -1);
    w.night();
    due.is("34: BURNT", w.count(9), 2);
    due.is("34: HOME", w.count(10), 4);
  }

  static void promises35and36() {
    WinterKeep w = new WinterKeep();
    due.is("35: without a DALE", w.image(3), 0);
    due.is("35: none such", w.image(4), -1);
    due.is("35: none such", w.image(-1), -1);
    due.is("36: never made", w.back(0), -1);
    due.is("36: none such", w.back(4), -1);
    due.is("36: none such", w.back(-1), -1);
    Bytes.dale(w, DALE);
    Bytes.rule(w, "tell 1");
    w.force(0);
    w.seat(0, 2);
    nights(w, 2);
    w.seed(8);
    w.note(1, 1, 1);
    due.is("35: NIGHT", w.image(0), 2);
    due.is("35: ACTS stay", w.count(13), 3);
    w.note(2, 2, 2);
    w.seed(3);
    w.force(-1);
    w.carry(1, 1);
    w.night();
    Bytes.dale(w, "dale 1 7;keep 5 5;field 3");
    Bytes.rule(w, "tell 2");
    w.feed(1, 1, 1, 1, 1);
    due.is("36: NIGHT", w.back(0), 2);
    // KEEP 2 overheard 2 of KEEP 0 in each of the NIGHTS.
    int[] want = {2, 9, 3, 3, 2, 2, 0, 2, 36, 0, 7, 0, 1, 0, 8, 20};
    for (int i = 0; i < 16; i++) due.is("36: count " + i, w.count(i), want[i]);
    due.is("36: BESIDE", w.keep(0, 5), 6);
    due.is("36: ROOM", w.keep(2, 0), 8);
    due.is("36: nothing can be UNDONE", w.undo(), -1);
    due.is("36: the NOTE", w.ruled(0), 0);
    w.night();
    due.is("36: once more", w.back(0), 2);
    due.is("36: NIGHT", w.count(7), 2);
    due.is("36: no DALE", w.back(3), 0);
    due.is("36: no DALE", w.night(), -1);
    due.is("36: RULES stay", w.count(5), 2);
    due.is("36: none IN FORCE", w.count(6), -1);
    due.is("36: IMAGES stay", w.back(0), 2);
    w.image(0);
    w.night();
    w.image(0);
    due.is("35: made anew", w.back(0), 3);
  }

  public static void main(String[] args) {
    promise1();
    promises2and3();
    promise5();
    promise6();
    promises7to9();
    promise10();
    promises11to14();
    promise15();
    promises16to18();
    promises19and20();
    promises21and22();
    promises23and24();
    promises25and26();
    promises27and28();
    promises29to31();
    promises32and33();
    promise34();
    promises35and36();
    due.end();
  }
}
