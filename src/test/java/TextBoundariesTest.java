/** Promises 1 to 6 and the two languages: each sentence that names a boundary, with a test of its own. */
public final class TextBoundariesTest {
  static final Sentences s = new Sentences("TextBoundariesTest", 1, 2, 3, 4, 5, 6);

  /** What a FAULT is, by the number that the document gives it. */
  static final int CANT_STAND = 0, NUMBER = 1, DEEP = 2, MANY = 3, CLAUSE = 4;

  static final int BLANKS = 0x20202020;
  static final int XS = 0x78787878;

  static int feed(WinterKeep w, String twenty) {
    int[] n = Bytes.twenty(twenty, 0);
    return w.feed(n[0], n[1], n[2], n[3], n[4]);
  }

  static void newObject() {
    s.test(1, "No DALE, no RULES, none IN FORCE.", () -> {
      WinterKeep w = new WinterKeep();
      for (int i = 0; i < 16; i++) s.is("count " + i, w.count(i), i == 6 ? -1 : 0);
      s.is("night", w.night(), -1);
      s.is("keep", w.keep(0, 0), -3);
      s.is("person", w.person(0, 0), -1);
      s.is("field", w.field(0, 0), -2);
      s.is("force", w.force(0), -2);
      s.is("the RULE that was IN FORCE", w.force(-1), -1);
      s.is("the first RULE", Bytes.rule(w, "tell 1"), 0);
    });
    s.test(1, "NONE = -1", () -> s.is("NONE", WinterKeep.NONE, -1));
    s.test(1, "An object is used for at most 512 calls after it has been made", () -> {
      WinterKeep w = new WinterKeep();
      feed(w, "dale 0 99;keep 60 20");
      w.dale();
      for (int i = 3; i <= 510; i++) w.night();
      s.is("the 511th call", w.undo(), 19);
      s.is("the 512th call", w.count(7), 507);
    });
  }

  static void feeding() {
    s.test(2, "Twenty bytes come behind the TAPE, of each number the highest first: how many it has", () -> {
      for (int i = 0; i < 20; i++) {
        WinterKeep w = new WinterKeep();
        s.is("feed", w.feed(BLANKS, BLANKS, BLANKS, BLANKS, BLANKS), 20);
        s.is("feed of an x at " + i, feed(w, " ".repeat(i) + "x" + " ".repeat(19 - i)), 40);
        s.is("the place of x", w.dale(), FaultsTest.fault(20 + i, CANT_STAND));
      }
      WinterKeep w = new WinterKeep();
      w.feed(BLANKS, BLANKS, 0x202080ff, -1, Integer.MIN_VALUE);
      s.is("a byte above 127", w.dale(), FaultsTest.fault(10, CANT_STAND));
    });
    s.test(2, "NONE, and none comes, if it would have more than 400", () -> {
      WinterKeep w = new WinterKeep();
      feed(w, "dale 0 1            ");
      for (int i = 2; i <= 20; i++) s.is("feed", w.feed(BLANKS, BLANKS, BLANKS, BLANKS, BLANKS), 20 * i);
      s.nothingBy("feed with 400", w, n -> w.feed(XS, XS, XS, XS, XS), -1, 1, 2);
      w.end(399);
      s.nothingBy("feed with 399", w, n -> w.feed(XS, XS, XS, XS, XS), -1, 1);
      w.end(381);
      s.nothingBy("feed with 381", w, n -> w.feed(XS, XS, XS, XS, XS), -1, 1);
      w.end(380);
      s.is("feed with 380", w.feed(BLANKS, BLANKS, BLANKS, BLANKS, BLANKS), 400);
      s.is("no x came", w.dale(), 0);
    });
  }

  static void ending() {
    s.test(3, "The TAPE has its first n bytes alone: n", () -> {
      WinterKeep w = new WinterKeep();
      s.is("end of nothing", w.end(0), 0);
      feed(w, "dale 0 1xxxxxxxxxxxx");
      s.is("all", w.end(20), 20);
      s.is("but the last", w.end(19), 19);
      s.is("8", w.end(8), 8);
      s.is("how many", w.count(15), 8);
      s.is("the next come behind these", feed(w, "2;keep 7 3          "), 28);
      s.is("dale", w.dale(), 1);
      s.is("HOT", w.count(1), 12);
      feed(w, "xxxxxxxxxxxxxxxxxxxx");
      s.is("none", w.end(0), 0);
      s.is("none is left", w.dale(), FaultsTest.fault(0, CANT_STAND));
    });
    s.test(3, "NONE, and nothing happens, if it has not so many, or n is below 0", () -> {
      WinterKeep w = new WinterKeep();
      s.nothingBy("end(#) of none", w, w::end, -1, 1, -1, 400, Integer.MAX_VALUE, Integer.MIN_VALUE);
      feed(w, "dale 0 1            ");
      s.nothingBy("end(#) of 20", w, w::end, -1, 21, 40, -1, -20, Integer.MAX_VALUE, Integer.MIN_VALUE);
      w.end(8);
      s.nothingBy("end(#) of 8", w, w::end, -1, 9, 20, -8);
      for (int i = 0; i < 19; i++) w.feed(BLANKS, BLANKS, BLANKS, BLANKS, BLANKS);
      s.nothingBy("end(#) of 388", w, w::end, -1, 389, 400, 401);
      s.is("dale", w.dale(), 0);
    });
  }

  static void tellingDales() {
    String dale = "dale 3 80;keep 5 6;keep 7 8;person 1 9;person 0 9;field 8;field 9;beside 0 1";
    s.test(4, "The TAPE, which is empty then, is the DALE in place of the one there was", () -> {
      WinterKeep w = Given.dale(dale);
      s.is("the TAPE", w.count(15), 0);
      Given.nights(w, 2);
      w.carry(0, 1);
      s.is("another", Bytes.dale(w, "dale 1 2;keep 3 4;keep 5 6;person 1 7"), 2);
      s.is("the TAPE", w.count(15), 0);
      int[] counts = {1, 2, 2, 1, 0, 0, -1, 0, 0, 0, 3, 0, 0, 0, 0, 0};
      for (int i = 0; i < 16; i++) s.is("count " + i, w.count(i), counts[i]);
      int[][] keeps = {{3, 4, 0, 0, -1, 0}, {5, 6, 0, 0, -1, 0}};
      for (int i = 0; i < 12; i++) s.is("keep " + i / 6 + " " + i % 6, w.keep(i / 6, i % 6), keeps[i / 6][i % 6]);
      s.is("PERSON 0", w.person(0, 0) * 10 + w.person(0, 1), 17);
      s.is("no PERSON 1", w.person(1, 0), -1);
      s.is("no FIELD 0", w.field(0, 0), -2);
      s.is("one without KEEPS", Bytes.dale(w, "dale 0 1"), 0);
      s.is("no KEEP 0", w.keep(0, 0), -3);
      s.is("a NIGHT of no KEEPS", w.night(), 0);
    });
    s.test(4, "no NOTES, nothing to be UNDONE; the RULE IN FORCE and x stay", () -> {
      WinterKeep w = Given.ruled(dale, "tell 1");
      w.seed(2147483647);
      w.night();
      w.note(1, 0, 5);
      Bytes.dale(w, dale);
      s.is("NOTES", w.count(12), 0);
      s.is("ACTS", w.count(13), 0);
      s.is("undo", w.undo(), -1);
      s.is("the RULE IN FORCE", w.count(6), 0);
      s.is("x", w.count(14), 2147483647);
    });
    s.test(4, "how many KEEPS", () -> {
      for (int i = 0; i <= 6; i++) s.isDale("dale 0 1" + ";keep 1 0".repeat(i), i);
    });
    s.test(4, "-2 - its FAULT, and all stays.", () -> {
      WinterKeep none = new WinterKeep();
      s.is("with no TAPE", none.dale(), -3);
      s.is("still no DALE", none.night(), -1);
      WinterKeep w = Given.ruled(dale, "tell 1");
      w.seed(7);
      w.night();
      w.seat(0, 1);
      w.carry(0, 1);
      w.note(1, 0, 5);
      String before = Given.stateBesideTape(w);
      s.is("a FAULT behind all", Bytes.dale(w, "dale 1 2;keep 3 4;field 5;"), FaultsTest.fault(26, CANT_STAND));
      s.is("a FAULT at the begin", Bytes.dale(w, "keep 1 1"), FaultsTest.fault(0, CLAUSE));
      s.is("no TAPE", w.dale(), -3);
      s.is("all stays", before.equals(Given.stateBesideTape(w)) ? 1 : 0, 1);
      s.is("the TAPE is empty", w.count(15), 0);
      s.is("undo", w.undo(), 2);
      s.is("KEEP 0 is at HOME", w.keep(0, 4), -1);
    });
  }

  static void daleLanguage() {
    s.test(4, "A DALE is a text of at most 400 bytes", () -> {
      s.isDale("dale 0 1" + " ".repeat(383) + ";keep 1 0", 1);
      s.daleFault("dale 0 1" + " ".repeat(391) + ";^", CANT_STAND);
      s.daleFault("^", CANT_STAND);
    });
    s.test(4, "CLAUSE { ; CLAUSE }, 40 at most", () -> {
      String forty = "dale0 1;keep1 0;keep1 0" + ";beside0 1".repeat(37);
      s.isDale("dale 0 1", 0);
      s.isDale(forty, 2);
      s.daleFault(forty + ";^beside0 1", CLAUSE);
      s.daleFault(forty + "; ^keep1 0", CLAUSE);
      s.daleFault("dale 0 1 ^keep 1 0", CANT_STAND);
      s.daleFault("dale 0 1;^;keep 1 0", CANT_STAND);
      s.daleFault("^;dale 0 1", CANT_STAND);
      s.daleFault("dale 0 1;^", CANT_STAND);
    });
    s.test(4, "LEAK 0 to 9", () -> {
      s.is("LEAK", Given.dale("dale 0 1").count(0), 0);
      s.is("LEAK", Given.dale("dale 9 1").count(0), 9);
      s.daleFault("dale ^10 1", NUMBER);
      s.daleFault("dale ^99999 1", NUMBER);
    });
    s.test(4, "HOT 1 to 99", () -> {
      s.is("HOT", Given.dale("dale 0 1").count(1), 1);
      s.is("HOT", Given.dale("dale 0 99").count(1), 99);
      s.daleFault("dale 0 ^0", NUMBER);
      s.daleFault("dale 0 ^100", NUMBER);
    });
    s.test(4, "once, the first CLAUSE", () -> {
      s.daleFault("dale 0 1;^dale 0 1", CLAUSE);
      s.daleFault("dale 0 1;keep 1 0;^dale 0 1", CLAUSE);
      for (String word : "keep person field beside".split(" ")) s.daleFault("^" + word + " 1 0;dale 0 1", CLAUSE);
    });
    s.test(4, "ROOM 1 to 60", () -> {
      s.is("ROOM", Given.dale("dale 0 1;keep 1 0").keep(0, 0), 1);
      s.is("ROOM", Given.dale("dale 0 1;keep 60 0").keep(0, 0), 60);
      s.daleFault("dale 0 1;keep ^0 0", NUMBER);
      s.daleFault("dale 0 1;keep ^61 0", NUMBER);
    });
    s.test(4, "COOLS 0 to 20", () -> {
      s.is("COOLS", Given.dale("dale 0 1;keep 1 0").keep(0, 1), 0);
      s.is("COOLS", Given.dale("dale 0 1;keep 1 20").keep(0, 1), 20);
      s.daleFault("dale 0 1;keep 1 ^21", NUMBER);
    });
    s.test(4, "a KEEP that was told", () -> {
      s.is("the last", Given.dale("dale 0 1;keep 1 0;keep 1 0;person 1 0").person(0, 0), 1);
      s.is("the first", Given.dale("dale 0 1;keep 1 0;keep 1 0;person 0 0").person(0, 0), 0);
      s.daleFault("dale 0 1;keep 1 0;keep 1 0;person ^2 0", NUMBER);
      s.daleFault("dale 0 1;person ^0 0", NUMBER);
      s.daleFault("dale 0 1;keep 1 0;person ^1 0;keep 1 0", NUMBER);
      s.daleFault("dale 0 1" + ";keep 1 0".repeat(6) + ";person ^6 0", NUMBER);
    });
    s.test(4, "TELLS 0 to 9", () -> {
      s.is("TELLS", Given.dale("dale 0 1;keep 1 0;person 0 0").person(0, 1), 0);
      s.is("TELLS", Given.dale("dale 0 1;keep 1 0;person 0 9").person(0, 1), 9);
      s.daleFault("dale 0 1;keep 1 0;person 0 ^10", NUMBER);
    });
    s.test(4, "CROWS 0 to 60", () -> {
      s.is("CROWS", Given.dale("dale 0 1;field 0").field(0, 0), 0);
      s.is("CROWS", Given.dale("dale 0 1;field 60").field(0, 0), 60);
      s.daleFault("dale 0 1;field ^61", NUMBER);
    });
    s.test(4, "two KEEPS; told already, either way round: nothing new", () -> {
      WinterKeep w = Given.dale("dale 0 1;keep 1 0;keep 1 0;keep 1 0;beside 0 2;beside 2 0;beside 0 2");
      s.is("KEEP 0", w.keep(0, 5), 4);
      s.is("KEEP 1", w.keep(1, 5), 0);
      s.is("KEEP 2", w.keep(2, 5), 1);
      s.daleFault("dale 0 1;keep 1 0;beside 0 ^0", NUMBER);
      s.daleFault("dale 0 1;keep 1 0;keep 1 0;beside ^2 0", NUMBER);
      s.daleFault("dale 0 1;keep 1 0;keep 1 0;beside 0 ^2", NUMBER);
      s.daleFault("dale 0 1;keep 1 0;keep 1 0;beside ^2 2", NUMBER);
      s.daleFault("dale 0 1;keep 1 0;beside 0 ^1;keep 1 0", NUMBER);
      s.daleFault("dale 0 1;beside ^0 1", NUMBER);
      s.daleFault("dale 0 1;keep 1 0;keep 1 0;beside 1^", CANT_STAND);
    });
  }

  static void daleNumbers() {
    s.test(4, "KEEPS 0 to 5, PEOPLE 0 to 4, FIELDS 0 to 3, in the order told.", () -> {
      WinterKeep w = Given.dale("dale 0 1;field 9;keep 1 0;person 0 1;keep 2 0;person 1 2;field 8;keep 3 0;person 0 3;"
          + "keep 4 0;keep 5 0;keep 6 0;person 5 4;person 4 5;field 7;field 6");
      for (int k = 0; k < 6; k++) s.is("KEEP " + k, w.keep(k, 0), k + 1);
      for (int p = 0; p < 5; p++) s.is("PERSON " + p, w.person(p, 1), p + 1);
      for (int f = 0; f < 4; f++) s.is("FIELD " + f, w.field(f, 0), 9 - f);
      s.is("no KEEP 6", w.keep(6, 0), -3);
      s.is("no PERSON 5", w.person(5, 0), -1);
      s.is("no FIELD 4", w.field(4, 0), -2);
    });
    s.test(4, "It is NIGHT 0; all KEEPS are at HOME, empty, their HEAT is 0.", () -> {
      WinterKeep w = Given.dale("dale 0 9;keep 20 0;person 0 9;keep 20 0;person 1 5;field 1");
      for (int i = 0; i < 2; i++) {
        s.is("NIGHT", w.count(7), 0);
        s.is("at HOME", w.count(10), 3);
        s.is("BURNT", w.count(9), 0);
        for (int k = 0; k < 2; k++) s.is("KEEP " + k, w.keep(k, 2) * 100 + w.keep(k, 3), 0);
        Given.nights(w, 3);
        w.carry(1, 0);
        Bytes.dale(w, "dale 0 9;keep 20 0;person 0 9;keep 20 0;person 1 5;field 1");
      }
    });
  }

  static void daleFaults() {
    s.test(4, "0 a byte or WORD that can't stand there, or the end (behind the last byte)", () -> {
      for (String text : new String[] {"^", "  ^", "^x", "^Dale 0 1", "^dal 0 1", "^dales 0 1", "^tell 1", "^7 1", "dale^",
          "dale   ^", "dale ^x 1", "dale ^keep", "dale ^-1 1", "dale 1^", "dale 1 ^", "dale 1 ^;", "dale 1^,2", "dale 1^.5",
          "dale 0 1 ^2", "dale 0 1^x", "dale 0 1^\0", "dale 0 1^\t", "dale 0 1^\n", "dale 0 1^\u00ff", "dale 0 1;^",
          "dale 0 1;  ^", "dale 0 1;^keeps 1 0", "dale 0 1;keep^", "dale 0 1;keep 1^", "dale 0 1;keep 1 0 ^0",
          "dale 0 1;field^", "dale 0 1;field 1 ^1", "dale 0 1;keep 1 0;person 0^", "dale 0 1;keep 1 0;person 0 1 ^1"}) {
        s.daleFault(text, CANT_STAND);
      }
      for (int sign = 0; sign < 256; sign++) {
        boolean canStand = sign == ' ' || sign == ';' || sign >= '0' && sign <= '9';
        if (!canStand && sign != '^') s.daleFault("dale 0 1^" + (char) sign + ";keep 1 0", CANT_STAND);
      }
    });
    s.test(4, "1 a NUMBER of more digits, or not as told (of beside the second KEEP, if it is the first)", () -> {
      s.isDale("dale 00009 00099;keep 00060 00020", 1);
      s.daleFault("dale ^000009 1", NUMBER);
      s.daleFault("dale 0 ^000001", NUMBER);
      s.daleFault("dale 0 ^" + "1".repeat(60), NUMBER);
      s.daleFault("dale 0  ^100x", NUMBER);
      s.daleFault("dale 0 1;field ^000000", NUMBER);
      s.daleFault("dale 0 1;keep 1 0;keep 1 0;beside 1  ^1", NUMBER);
      s.daleFault("dale 0 1;keep 1 0;keep 1 0;beside 1 ^00001", NUMBER);
      s.daleFault("dale 0 1;keep 1 0;keep 1 0;beside 1 ^000000", NUMBER);
    });
    s.test(4, "4 one CLAUSE too many, a second dale, another CLAUSE ahead of it, a seventh KEEP, a sixth PERSON, a "
        + "fifth FIELD (at its first byte).", () -> {
      String keeps = "dale 0 1" + ";keep 1 0".repeat(6);
      String people = "dale 0 1;keep 1 0" + ";person 0 0".repeat(5);
      String fields = "dale 0 1" + ";field 0".repeat(4);
      s.isDale(keeps, 6);
      s.isDale(people, 1);
      s.isDale(fields, 0);
      s.daleFault(keeps + ";  ^keep 1 0", CLAUSE);
      s.daleFault(people + ";  ^person 0 0", CLAUSE);
      s.daleFault(fields + ";  ^field 0", CLAUSE);
      s.daleFault("dale0 1;keep1 0;keep1 0" + ";beside0 1".repeat(37) + "; ^field 0", CLAUSE);
      s.daleFault("dale 0 1;  ^dale 0 1", CLAUSE);
      s.daleFault("  ^keep 1 0;dale 0 1", CLAUSE);
      s.daleFault("  ^field 0", CLAUSE);
    });
    s.test(4, "FAULTS, the first along the text, 1 + 8 * its place", () -> {
      s.is("a FAULT at 0", Bytes.dale(new WinterKeep(), "x"), -2 - 1);
      s.is("a FAULT at 5, of two", Bytes.dale(new WinterKeep(), "dale 10 100;x"), -2 - (1 + 8 * 5 + 1));
      s.is("a FAULT at 400", Bytes.dale(new WinterKeep(), "dale 0 1" + " ".repeat(391) + ";"), -2 - (1 + 8 * 400));
      s.daleFault("dale 0 1" + ";keep 1 0".repeat(6) + ";^keep 99 99", CLAUSE);
      s.daleFault("^field 61;dale 0 0", CLAUSE);
      s.daleFault("dale 0 1;keep ^0 21", NUMBER);
    });
    s.test(4, "Of one place the least.", () -> {
      s.daleFault("dale 0 1" + ";keep 1 0".repeat(6) + ";^keeps 1 0", CANT_STAND);
      s.daleFault("dale0 1;keep1 0;keep1 0" + ";beside0 1".repeat(37) + ";^x", CANT_STAND);
      s.daleFault("dale0 1;keep1 0;keep1 0" + ";beside0 1".repeat(37) + ";^", CANT_STAND);
    });
  }

  static void tellingRules() {
    s.test(5, "The TAPE, which is empty then, is a RULE: its number", () -> {
      WinterKeep w = new WinterKeep();
      for (int i = 0; i < 6; i++) {
        s.is("RULE " + i, Bytes.rule(w, "tell " + i), i);
        s.is("the TAPE", w.count(15), 0);
        s.is("RULES", w.count(5), i + 1);
      }
    });
    s.test(5, "-2 - its FAULT", () -> {
      WinterKeep w = Given.dale("dale 0 9;keep 9 0;person 0 9", "tell 1");
      String before = Given.stateBesideTape(w);
      s.is("no TAPE", w.rule(), -3);
      s.is("a FAULT behind all", Bytes.rule(w, "tell 1;"), FaultsTest.fault(7, CANT_STAND));
      s.is("nothing else", before.equals(Given.stateBesideTape(w)) ? 1 : 0, 1);
      s.is("the TAPE is empty", w.count(15), 0);
      s.is("the next RULE", Bytes.rule(w, "tell 0"), 1);
      w.force(1);
      w.night();
      s.is("it is the one that was told", w.keep(0, 2), 0);
    });
    s.test(5, "NONE, and nothing happens: there are 6.", () -> {
      WinterKeep w = Given.ruled("dale 0 9;keep 9 0;person 0 9",
          "tell 0", "tell 0", "tell 0", "tell 0", "tell 0", "tell 0");
      s.nothingBy("rule of no TAPE", w, n -> w.rule(), -1, 1);
      feed(w, "tell 1              ");
      s.nothingBy("rule", w, n -> w.rule(), -1, 1, 2);
      feed(w, "x                   ");
      s.nothingBy("rule with a FAULT", w, n -> w.rule(), -1, 1, 2);
      w.end(0);
      feed(w, "dale 0 1            ");
      s.nothingBy("rule of a DALE", w, n -> w.rule(), -1, 1);
      s.is("the TAPE is whole", w.dale(), 0);
    });
    s.test(5, "RULES 0 to 5", () -> {
      WinterKeep w = Given.dale("dale 0 9;keep 60 20;person 0 1",
          "tell 1", "tell 0", "tell 0", "tell 0", "tell 0", "tell 1");
      s.is("no RULE 6", w.force(6), -2);
      for (int i = 0; i < 6; i++) {
        w.force(i);
        w.night();
        s.is("FULL behind RULE " + i, w.keep(0, 2), i < 5 ? 1 : 2);
      }
    });
  }

  static void force() {
    s.test(6, "A RULE is IN FORCE (NONE: none): which was", () -> {
      WinterKeep w = Given.dale("dale 0 9;keep 60 20;person 0 1", "tell 0", "tell 1");
      s.is("none was", w.force(-1), -1);
      s.is("none was", w.force(0), -1);
      w.night();
      s.is("0 was", w.force(1), 0);
      s.is("1 was", w.force(1), 1);
      w.night();
      s.is("by 1 alone", w.keep(0, 2), 1);
      s.is("1 was", w.force(-1), 1);
      w.night();
      s.is("by none", w.keep(0, 2), 2);
      s.is("none", w.count(6), -1);
    });
    s.test(6, "-2, and nothing happens, if there is none such", () -> {
      WinterKeep none = new WinterKeep();
      s.nothingBy("force(#)", none, none::force, -2, 0, 1, 5, 6, -2);
      WinterKeep w = Given.ruled("dale 0 9", "tell 0", "tell 1");
      s.nothingBy("force(#)", w, w::force, -2, 2, 5, 6, -2, -3, Integer.MAX_VALUE, Integer.MIN_VALUE);
    });
  }

  /** 1 if PERSON 1, whose KEEP is 0, tells by a TEST. */
  static int holds(String test) {
    WinterKeep w = Given.ruled("dale 0 99;keep 40 20;keep 30 7;person 1 5;person 0 4;person 1 6", "tell 1 if " + test);
    w.night();
    return w.keep(0, 2) > 0 ? 1 : 0;
  }

  static void hold(String... tests) { for (String test : tests) s.is("'" + test + "' holds", holds(test), 1); }
  static void doNotHold(String... tests) { for (String test : tests) s.is("'" + test + "' holds", holds(test), 0); }

  static void ruleLanguage() {
    s.test(5, "texts likewise, 12 CLAUSES at most: tell SUM [ if TEST ].", () -> {
      s.isRule("tell 1");
      s.isRule("tell 1 if 1=1");
      s.isRule("tell 1;".repeat(11) + "tell 1");
      s.ruleFault("tell 1;".repeat(12) + "^tell 1", CLAUSE);
      s.isRule("tell 1" + " ".repeat(387) + ";tell 1");
      s.ruleFault("^", CANT_STAND);
      s.ruleFault("tell 1;^", CANT_STAND);
      s.ruleFault("tell ^if 1=1", CANT_STAND);
      s.ruleFault("tell 1 if^", CANT_STAND);
      s.ruleFault("tell 1 if 1=1 ^if 1=1", CANT_STAND);
    });
    s.test(5, "TEST: PART { or PART }. PART: FACT { and FACT }.", () -> {
      hold("1=1 or 1=2", "1=2 or 1=1", "1=2 or 1=2 or 1=1", "1=1 or 1=2 and 1=2", "1=2 and 1=2 or 1=1", "1=1 and 1=1",
          "1=2 or 1=1 and 1=1", "1=1 and 1=1 and 1=1", "1=2 and 1=1 or 1=1 and 1=1 or 1=2");
      doNotHold("1=2 or 1=2", "1=1 and 1=2", "1=2 and 1=1", "1=2 and 1=1 or 1=2", "1=2 or 1=1 and 1=2",
          "1=1 and 1=1 and 1=2", "1=2 or 1=1 and 1=2 or 1=2");
      s.ruleFault("tell 1 if 1=1 or ^and 1=1", CANT_STAND);
      s.ruleFault("tell 1 if 1=1 and^", CANT_STAND);
    });
    s.test(5, "FACT: not FACT | [ TEST ] (these brackets are signs) | SUM SIGN SUM, SIGN one of < <= = >= >.", () -> {
      hold("1<2", "1<=1", "1<=2", "1=1", "1>=1", "2>=1", "2>1", "not 1=2", "not not 1=1", "not 1=2 or 1=1", "[1=1]",
          "[[1=1]]", "not [1=2 or 1=2]", "[1=2 or 1=1] and 1=1", "not 1=2 and 1=1");
      for (String fact : new String[] {"1<2", "1<=1", "1=1", "1>=1", "2>1"}) {
        hold(fact + " and 1=1", "1=1 and " + fact, fact + " and " + fact, "1=2 or " + fact);
        doNotHold("not " + fact, "not [" + fact + "] and 1=1", fact + " and 1=2");
      }
      doNotHold("1<1", "2<1", "2<=1", "1=2", "2=1", "1>=2", "1>1", "1>2", "not 1=1",
          "not 1=1 and 1=2", "[1=1 or 1=1] and 1=2", "not [1=1 and 1=1]", "not not 1=2");
      s.ruleFault("tell 1 if 1 < ^= 1", CANT_STAND);
      s.ruleFault("tell 1 if 1 =^< 1", CANT_STAND);
      s.ruleFault("tell 1 if 1 <^> 1", CANT_STAND);
      s.ruleFault("tell 1 if 1 ^! 1", CANT_STAND);
      s.ruleFault("tell 1 if [1=1^", CANT_STAND);
      s.ruleFault("tell 1 if [1=1 ^; tell 1", CANT_STAND);
      s.ruleFault("tell 1 if 1=1^]", CANT_STAND);
      s.ruleFault("tell 1 if [^]", CANT_STAND);
      s.ruleFault("tell 1 if [1^]=1", CANT_STAND);
      s.ruleFault("tell ^[1]", CANT_STAND);
    });
    s.test(5, "SUM: TERM { (+ or -) TERM }. TERM: VALUE { (* or / or %) VALUE }.", () -> {
      hold("2+3*4=14", "3*4+2=14", "10-3-2=5", "10-2*3+1=5", "8/2/2=2", "2*7%4=2", "7%4*2=6", "9-8/4=7", "1-2<0");
      s.ruleFault("tell ^+1", CANT_STAND);
      s.ruleFault("tell 1+^+1", CANT_STAND);
      s.ruleFault("tell 1*^", CANT_STAND);
      s.ruleFault("tell 1 ^1", CANT_STAND);
      s.ruleFault("tell ^-1", CANT_STAND);
    });
    s.test(5, "NUMBER (1 to 5 digits, as far as digits go on)", () -> {
      hold("99999=99998+1", "00000=0", "00010=10", "10000/9999=1");
      s.isRule("tell 0");
      s.isRule("tell 99999");
      s.ruleFault("tell ^100000", NUMBER);
      s.ruleFault("tell ^000000", NUMBER);
      s.ruleFault("tell ^" + "9".repeat(60), NUMBER);
      s.ruleFault("tell 1 if 1=^123456 and 1=1", NUMBER);
      s.ruleFault("tell 12345 ^6", CANT_STAND);
    });
  }

  static void ruleWords() {
    s.test(5, "WORDS (small letters, as far as these go on)", () -> {
      s.isRule("tell1if1=1or1=1and not1=1;tell 2");
      s.isRule("tell full");
      s.ruleFault("tell ^fulls", CANT_STAND);
      s.ruleFault("tell ^ful", CANT_STAND);
      s.ruleFault("tell ^fullif 1=1", CANT_STAND);
      s.ruleFault("tell ^fullz", CANT_STAND);
      s.ruleFault("tell full^Z", CANT_STAND);
      s.ruleFault("tell full^`", CANT_STAND);
      s.ruleFault("tell full^{", CANT_STAND);
      s.ruleFault("tell ^Full", CANT_STAND);
      s.ruleFault("^tellfull", CANT_STAND);
      s.ruleFault("tell ^roomx2", CANT_STAND);
      s.ruleFault("tell 1 if 1=1 ^orr 1=1", CANT_STAND);
      s.ruleFault("tell 1 if ^no 1=1", CANT_STAND);
    });
    s.test(5, "person, keep, tells, full (how FULL the KEEP is), room (its ROOM), heat (its HEAT), cools", () -> {
      hold("person=1", "keep=0", "tells=4", "full=0", "room=40", "heat=0", "cools=20");
      WinterKeep w = Given.ruled("dale 0 99;keep 9 1;keep 60 0;person 1 9;person 1 5;person 0 7",
          "tell 1 if night=0;tell 1 if person=1 and keep=1 and tells=5 and full=14 and room=60 and heat=3 and cools=0;"
          + "tell 1 if person=2 and keep=0 and tells=7 and full=7 and room=9 and heat=0 and cools=1");
      Given.nights(w, 2);
      s.is("PERSON 0 does not, 1 tells", w.keep(1, 2), 19);
      s.is("PERSON 2 tells", w.keep(0, 2), 9);
    });
    s.test(5, "beside (how many KEEPS at HOME are BESIDE it)", () -> {
      String dale = "dale 0 1;keep 9 20;keep 9 20;keep 9 20;keep 4 0;person 0 1;person 3 4;field 0;"
          + "beside 0 1;beside 2 0;beside 0 3;beside 1 2";
      for (int i = 0; i <= 4; i++) {
        WinterKeep w = Given.dale(dale, "tell 1 if beside=" + i + " and person=0");
        w.force(0);
        w.night();
        s.is("three, tells by " + i, w.keep(0, 2), i == 3 ? 1 : 0);
        w.undo();
        w.carry(1, 0);
        w.night();
        s.is("one is in a FIELD, tells by " + i, w.keep(0, 2), i == 2 ? 1 : 0);
        w.undo();
        w.force(-1);
        s.is("one is BURNT", w.night(), 8);
        w.force(0);
        w.night();
        s.is("one is in a FIELD, one BURNT, tells by " + i, w.keep(0, 2), i == 1 ? 2 : 1);
      }
    });
    s.test(5, "others (how many other PEOPLE there are whose KEEP is the same)", () -> {
      String dale = "dale 0 99;keep 60 20;keep 60 20;person 0 1;person 1 1;person 1 1;person 1 1;person 1 1";
      for (int i = 0; i <= 5; i++) {
        WinterKeep w = Given.ruled(dale, "tell 1 if others=" + i);
        w.night();
        s.is("none other, tells by " + i, w.keep(0, 2), i == 0 ? 1 : 0);
        s.is("three others, tell by " + i, w.keep(1, 2), i == 3 ? 4 : 0);
      }
      WinterKeep w = Given.ruled("dale 0 99;keep 60 20" + ";person 0 1".repeat(5), "tell others-3");
      w.night();
      s.is("four others", w.keep(0, 2), 5);
    });
    s.test(5, "burnt (how many KEEPS are BURNT), night.", () -> {
      WinterKeep w = Given.dale("dale 0 1;keep 60 20;keep 4 0;keep 8 0;person 0 1;person 1 4;person 2 4",
          "tell 1 if burnt=0 and night=0", "tell 1 if burnt=2 and night=1", "tell 1 if burnt=2 and night=2");
      w.force(1);
      w.night();
      s.is("none is BURNT in NIGHT 0", w.keep(0, 2), 0);
      w.undo();
      w.force(0);
      s.is("two are BURNT", w.night(), 6);
      s.is("FULL", w.keep(0, 2), 1);
      w.night();
      s.is("no more none in NIGHT 1", w.keep(0, 2), 1);
      w.force(2);
      w.night();
      s.is("two, and NIGHT 2", w.keep(0, 2), 2);
    });
  }

  static void ruleNumbers() {
    String two60 = "32768*32768*32768*32768";
    s.test(5, "/ is towards 0, % its rest, both 0 by 0", () -> {
      hold("7/2=3", "7%2=1", "1/2=0", "1%2=1", "6/2=3", "6%2=0",
          "7/0=0", "7%0=0", "0/0=0", "0%0=0", "7/night=0", "7%night=0");
      // -2^63 by 3: -3074457345618258602, rest -2.
      hold(two60 + "*8/3*3=" + two60 + "*8+2", two60 + "*8%3+2=0");
    });
    s.test(5, "all goes round in 64 bits", () -> {
      hold(two60 + "*7>0", two60 + "*8<0", two60 + "*8-1>0", two60 + "*8-1+1<0", two60 + "*15<0", two60 + "*16=0",
          two60 + "*16+5=5", "0-" + two60 + "*8<0", two60 + ">99999*99999", "65536*65536>1", "65536*65536-1>65536");
    });
    s.test(5, "Blanks (32) stand between as one likes.", () -> {
      s.isRule("   tell   1   if   [   not   full   <=   2   *   3   ]   ;   tell   2   ");
      s.isRule("tell1if[not full<=2*3];tell2");
      s.isDale("   dale   0   1   ;   keep   1   0   ", 1);
      s.isDale("dale0 1;keep1 0", 1);
      s.ruleFault("^te ll 1", CANT_STAND);
      s.ruleFault("tell^\t1", CANT_STAND);
      s.ruleFault("tell^\n1", CANT_STAND);
      s.ruleFault("tell^\u00a01", CANT_STAND);
      s.ruleFault("tell 1 if 1 < ^= 2", CANT_STAND);
      s.daleFault("dale^\t0 1", CANT_STAND);
      s.daleFault("^da le 0 1", CANT_STAND);
      s.daleFault("dale 01^", CANT_STAND);
    });
    s.test(5, "[ and not lie within one another 10 deep at most", () -> {
      s.isRule("tell 1 if " + "[".repeat(10) + "1=1" + "]".repeat(10));
      s.isRule("tell 1 if " + "not ".repeat(10) + "1=1");
      s.isRule("tell 1 if " + "not [".repeat(5) + "1=1" + "]".repeat(5) + " or "
          + "[not ".repeat(5) + "1=1" + "]".repeat(5));
      hold("not ".repeat(10) + "1=1", "[".repeat(10) + "1=2 or 1=1" + "]".repeat(10));
      doNotHold("not ".repeat(9) + "1=1", "not [".repeat(5) + "1=1" + "]".repeat(5));
      s.ruleFault("tell 1 if " + "[".repeat(10) + "^[1=1" + "]".repeat(11), DEEP);
      s.ruleFault("tell 1 if " + "not ".repeat(10) + "^not 1=1", DEEP);
      s.ruleFault("tell 1 if " + "not [".repeat(5) + "^not 1=1" + "]".repeat(5), DEEP);
      s.ruleFault("tell 1 if " + "[not ".repeat(5) + "^[1=1]" + "]".repeat(5), DEEP);
    });
    s.test(5, "at most 60 VALUES (of SUMS) and FACTS made of a SIGN, together.", () -> {
      s.isRule("tell 1" + "+1".repeat(59));
      s.ruleFault("tell 1" + "+1".repeat(59) + "+^1", MANY);
      s.isRule("tell 1" + "+1".repeat(56) + " if 1=1");
      s.ruleFault("tell 1" + "+1".repeat(57) + " if 1=^1", MANY);
      // A VALUE, then 19 FACTS of three each, then one VALUE and one FACT more, or two VALUES.
      String facts = "1=1" + " and 1=1".repeat(18);
      s.isRule("tell 1*1*1 if " + facts);
      s.ruleFault("tell 1 if " + facts + " or 1=^1", MANY);
      s.isRule("tell 1 if not [" + facts + "];tell 1;tell 1");
      s.ruleFault("tell 1 if not [" + facts + "];tell 1;tell 1;tell ^1", MANY);
      // Each RULE by itself, by turns 59 - 59 and 60 - 59.
      WinterKeep w = Given.dale("dale 0 99;keep 60 20;person 0 1");
      for (int i = 0; i < 6; i++) {
        s.is("61 VALUES", Bytes.rule(w, "tell 1" + "*1".repeat(60)), FaultsTest.fault(125, MANY));
        s.is("60 VALUES, RULE " + i, Bytes.rule(w, "tell " + (59 + i % 2) + "-1".repeat(59)), i);
      }
      for (int i = 0; i < 6; i++) {
        w.force(i);
        w.night();
        s.is("FULL behind RULE " + i, w.keep(0, 2), (i + 1) / 2);
      }
    });
  }

  static void ruleFaults() {
    String values59 = "tell 1" + "+1".repeat(58);
    String values60 = values59 + "+1";
    s.test(5, "0 a byte or WORD that can't stand there, or the end (behind the last byte)", () -> {
      for (String text : new String[] {"^", "   ^", "^x", "^1", "^dale 0 1", "^Tell 1", "tell^", "tell   ^", "tell ^x",
          "tell ^tell 1", "tell ^;", "tell ^or", "tell 1+^", "tell 1 +  ^", "tell 1 ^x", "tell 1 ^or 1=1", "tell 1 ^tell 1",
          "tell 1 ^= 1", "tell 1^\0", "tell 1^\u0080", "tell 1 if ^if", "tell 1 if 1^", "tell 1 if 1 ^", "tell 1 if 1 ^;",
          "tell 1 if 1=^", "tell 1 if 1=1 ^1", "tell 1 if 1=1 ^not 1=1", "tell 1 if not^", "tell 1 if not ^;", "tell 1 if [^",
          "tell 1 if [1=1 ^", "tell 1 if 1 ^and 1=1", "tell 1; ^if", "tell 1;   ^"}) {
        s.ruleFault(text, CANT_STAND);
      }
      for (int sign = 0; sign < 256; sign++) {
        boolean canStand = sign == ' ' || sign == ';' || sign >= '0' && sign <= '9' || "+-*/%".indexOf(sign) >= 0;
        if (!canStand && sign != '^') s.ruleFault("tell 1^" + (char) sign + ";tell 1", CANT_STAND);
      }
    });
    s.test(5, "1 a NUMBER of more digits, or not as told", () -> {
      s.ruleFault("tell   ^123456", NUMBER);
      s.ruleFault("tell 1+^000001", NUMBER);
      s.ruleFault("tell 1 if ^1000000000000<1", NUMBER);
    });
    s.test(5, "2 too deep (at the sign that opens, or the word not)", () -> {
      s.ruleFault("tell 1 if " + "[".repeat(10) + "   ^[", DEEP);
      s.ruleFault("tell 1 if " + "[".repeat(10) + "   ^not", DEEP);
      s.ruleFault("tell 1 if " + "not ".repeat(10) + "   ^[x", DEEP);
      s.ruleFault("tell 1;tell 1 if 1=1 and " + "not[".repeat(5) + "1=1 or ^not 1=1", DEEP);
    });
    s.test(5, "3 one VALUE or FACT too many (at its first byte; of a FACT at its SIGN)", () -> {
      s.ruleFault(values60 + "+  ^99999", MANY);
      s.ruleFault(values60 + "+  ^night", MANY);
      s.ruleFault(values60 + ";tell  ^1", MANY);
      s.ruleFault(values60 + " if  ^1=1", MANY);
      s.ruleFault(values59 + " if 1  ^=1", MANY);
      s.ruleFault(values59 + " if 1  ^<=1", MANY);
      s.ruleFault(values59 + " if not [1  ^>", MANY);
    });
    s.test(5, "4 one CLAUSE too many", () -> {
      s.ruleFault("tell 1;".repeat(12) + "  ^tell 1", CLAUSE);
      s.ruleFault("tell 1;".repeat(12) + "  ^tell", CLAUSE);
      s.ruleFault("tell 1 if 1=1;".repeat(12) + "^tell 1 if 1=1;tell 1", CLAUSE);
    });
    s.test(5, "FAULTS, the first along the text, 1 + 8 * its place", () -> {
      s.is("a FAULT at 0", Bytes.rule(new WinterKeep(), ";"), -2 - 1);
      s.is("a FAULT at 5, of two", Bytes.rule(new WinterKeep(), "tell 123456+x"), -2 - (1 + 8 * 5 + 1));
      s.is("a FAULT at 400", Bytes.rule(new WinterKeep(), "tell 1" + " ".repeat(393) + "+"), -2 - (1 + 8 * 400));
      s.ruleFault(values59 + " if 1 ^= 123456", MANY);
      s.ruleFault("tell 1;".repeat(12) + "^tell 123456", CLAUSE);
    });
    s.test(5, "Of one place the least.", () -> {
      s.ruleFault(values60 + "+^nights", CANT_STAND);
      s.ruleFault(values60 + "+^123456", NUMBER);
      s.ruleFault(values60 + "+^", CANT_STAND);
      s.ruleFault(values59 + " if 1^!1", CANT_STAND);
      s.ruleFault("tell 1;".repeat(12) + "^tells", CANT_STAND);
      s.ruleFault("tell 1;".repeat(12) + "^", CANT_STAND);
      s.ruleFault("tell 1 if " + "not ".repeat(10) + "^nots", CANT_STAND);
    });
  }

  public static void main(String[] args) {
    newObject();
    feeding();
    ending();
    tellingDales();
    daleLanguage();
    daleNumbers();
    daleFaults();
    tellingRules();
    force();
    ruleLanguage();
    ruleWords();
    ruleNumbers();
    ruleFaults();
    s.end();
  }
}
