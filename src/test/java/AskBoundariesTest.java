/** Promises 16 to 33: each sentence that names a boundary, with a test of its own. */
public final class AskBoundariesTest {
  static final Sentences s = new Sentences("AskBoundariesTest",
      16, 17, 18, 19, 20, 21, 22, 23, 24, 25, 26, 27, 28, 29, 30, 31, 32, 33);

  static final int LEAST = Integer.MIN_VALUE;
  static final int GREATEST = Integer.MAX_VALUE;

  /** Behind two NIGHTS KEEP 0 is BURNT, 1 in FIELD 1, FULL 9, HEAT 1, and 2 at HOME, FULL 10, without HEAT. */
  static WinterKeep three() { return ActBoundariesTest.three(); }

  static WinterKeep empty() { return Given.dale("dale 0 1"); }

  /** What is asked of an object, once each, by numbers that are all good. */
  static void askAll(WinterKeep w) {
    for (int i = 0; i < 3; i++) w.ahead(2, 100, i);
    w.full(2);
    for (int i = -1; i < 6; i++) w.placing(i);
    for (int i = -1; i < 6; i++) w.apart(i);
    for (int i = 0; i < 3; i++) w.silent(40, i);
    for (int p = 0; p < 4; p++) w.most(p, 60);
    for (int i = 0; i < 3; i++) w.rests(0, 3, 20, i);
    w.pence(9999, 2);
    for (int i = 0; i < 2; i++) {
      w.burns(i);
      w.spring(60, i);
      w.clash(i);
      w.had(2, 40, 60, i);
      w.ring(i);
      w.ruled(i);
      w.look(60, i);
      w.frosts(10, 60, 50, i);
    }
  }

  static void asking() {
    s.test(16, "By what is asked nothing changes; NIGHTS go on by the RULE IN FORCE.", () -> {
      WinterKeep w = three();
      Bytes.rule(w, "tell 1 if person=3");
      w.force(0);
      w.seed(5);
      w.note(0, 0, 0);
      String before = Given.state(w);
      for (int i = 0; i < 2; i++) askAll(w);
      s.is("nothing changes", before.equals(Given.state(w)) ? 1 : 0, 1);
      s.is("undo", w.undo(), 2);
      s.is("NIGHT", w.count(7), 1);
      s.is("undo", w.undo(), 1);
      s.is("by the RULE", w.ahead(2, 1, 0) * 100 + w.ahead(1, 1, 0), 1009);
      w.force(-1);
      s.is("by none", w.ahead(2, 1, 0) * 100 + w.ahead(1, 1, 0), 1018);
    });
    s.test(16, "AHEAD n NIGHTS (0 to 100): how FULL a KEEP is; its HEAT; KEEPS that are BURNT.", () -> {
      WinterKeep w = Given.ruled("dale 0 2;keep 60 0;keep 60 20;person 0 7;person 1 8", "tell 1 if night=99");
      for (int k = 0; k < 2; k++) {
        s.is("FULL in 0", w.ahead(k, 0, 0), 0);
        s.is("FULL in 99", w.ahead(k, 99, 0), 0);
        s.is("FULL in 100", w.ahead(k, 100, 0), 7 + k);
      }
      s.is("HEAT in 99", w.ahead(0, 99, 1), 0);
      s.is("HEAT in 100", w.ahead(0, 100, 1), 1);
      s.is("BURNT in 100", w.ahead(0, 100, 2), 0);
      w.night();
      s.is("HEAT in 99", w.ahead(0, 99, 1), 1);
      s.is("BURNT in 99", w.ahead(0, 99, 2), 0);
      s.is("BURNT in 100", w.ahead(0, 100, 2), 1);
      s.is("FULL then", w.ahead(0, 100, 0) * 10 + w.ahead(0, 100, 1), 0);
      w = three();
      s.is("now, BURNT", w.ahead(0, 0, 2), 1);
      s.is("now, in a FIELD", w.ahead(1, 0, 0) * 10 + w.ahead(1, 0, 1), 91);
      s.is("now, at HOME", w.ahead(2, 0, 0), 10);
    });
    s.test(16, "2: KEEPS that are BURNT, as bits (keep is not asked).", () -> {
      WinterKeep w = three();
      s.each("ahead(#, 0, 2)", n -> w.ahead(n, 0, 2), 1, 0, 1, 2, 3, 6, -1, LEAST, GREATEST);
      s.each("ahead(#, 0, 2) without KEEPS", n -> empty().ahead(n, 100, 2), 0, 0, -1, 6);
    });
    s.test(16, "NONE without these, or a DALE.", () -> {
      WinterKeep w = three();
      s.nothingBy("ahead(#, 1, 0)", w, n -> w.ahead(n, 1, 0), -1, 3, 5, 6, -1, LEAST, GREATEST);
      s.nothingBy("ahead(#, 1, 1)", w, n -> w.ahead(n, 1, 1), -1, 3, 5, 6, -1, LEAST, GREATEST);
      s.nothingBy("ahead(0, 1, #)", w, n -> w.ahead(0, 1, n), -1, 3, 4, -1, LEAST, GREATEST);
      for (int what = 0; what < 3; what++) {
        int i = what;
        s.nothingBy("ahead(2, #, " + i + ")", w, n -> w.ahead(2, n, i), -1, 101, 102, -1, LEAST, GREATEST);
        s.each("without a DALE: ahead(0, #, " + i + ")", n -> new WinterKeep().ahead(0, n, i), -1, 0, 1, 100);
      }
      s.each("without KEEPS: ahead(#, 0, 0)", n -> empty().ahead(n, 0, 0), -1, 0, -1);
    });
  }

  static void burning() {
    s.test(17, "BURNS: the first NIGHT, this one the first, of 200, in which any is BURNT; which, the least of that "
        + "NIGHT.", () -> {
      WinterKeep w = Given.dale("dale 0 2;keep 8 20;keep 8 0;keep 8 0;person 2 4;person 1 8",
          "tell 1 if night=199", "tell 1 if night=200");
      s.is("this one", w.burns(0), 0);
      s.is("which", w.burns(1), 1);
      w.force(0);
      s.is("the last of 200", w.burns(0) * 10 + w.burns(1), 1991);
      w.force(1);
      s.is("one too late", w.burns(0) * 10 + w.burns(1), -22);
      w.night();
      s.is("no more too late", w.burns(0) * 10 + w.burns(1), 2001);
      w.force(-1);
      s.is("this one", w.burns(0), 1);
      w.night();
      s.is("the next that burns", w.burns(0) * 10 + w.burns(1), 22);
      w.night();
      s.is("no more", w.burns(0), -2);
      w = Given.dale("dale 0 1" + ";keep 4 0".repeat(6) + ";person 5 4;person 3 4;person 4 4");
      s.is("the least of three", w.burns(1), 3);
      for (int k = 0; k < 6; k++) {
        w = Given.dale("dale 0 1" + ";keep 4 0".repeat(6) + ";person " + k + " 4");
        s.is("KEEP " + k + " alone", w.burns(1), k);
      }
    });
    s.test(17, "-2: in none of these.", () -> {
      for (int what = 0; what < 2; what++) {
        s.is("nobody tells", Given.dale("dale 0 1;keep 60 0").burns(what), -2);
        s.is("no KEEPS", empty().burns(what), -2);
      }
    });
    s.test(17, "NONE for others, or without a DALE.", () -> {
      WinterKeep w = three();
      s.nothingBy("burns(#)", w, w::burns, -1, 2, 3, -1, -2, LEAST, GREATEST);
      s.each("burns(#) without a DALE", n -> new WinterKeep().burns(n), -1, 0, 1, 2);
    });
    s.test(18, "FULL: of a KEEP the first NIGHT, this one the first, of 200, behind which it is as FULL as its "
        + "ROOM.", () -> {
      String dale = "dale 0 99;keep 9 20;keep 10 20;keep 4 20;person 0 9;person 1 9;person 2 4";
      WinterKeep w = Given.dale(dale, "tell 1 if night=199", "tell 1 if night=200");
      s.is("this one", w.full(0), 0);
      s.is("the next", w.full(1), 1);
      w.force(0);
      s.is("the last of 200", w.full(0), 199);
      w.force(1);
      s.is("one too late", w.full(0), -2);
      w.night();
      s.is("no more too late", w.full(0), 200);
      w.force(-1);
      w.night();
      s.is("it is already: this one", w.full(0), 2);
      w.air(0);
      w.force(0);
      s.is("no more so", w.full(0), 199);
    });
    s.test(18, "-2: behind none of these", () -> {
      s.is("nobody tells", Given.dale("dale 0 99;keep 1 0").full(0), -2);
      WinterKeep w = Given.dale("dale 0 1;keep 4 0;person 0 4");
      s.is("BURNT in the NIGHT in which it would be", w.full(0), -2);
      w.night();
      s.is("BURNT", w.full(0), -2);
      w = Given.ruled("dale 0 99;keep 9 20;person 0 8", "tell 1 if night=0");
      s.is("one less than its ROOM", w.full(0), -2);
    });
    s.test(18, "NONE without that KEEP.", () -> {
      WinterKeep w = three();
      s.nothingBy("full(#)", w, w::full, -1, 3, 5, 6, -1, -2, LEAST, GREATEST);
      s.each("full(#) of no KEEPS", n -> empty().full(n), -1, 0, -1);
      s.each("full(#) without a DALE", n -> new WinterKeep().full(n), -1, 0, -1);
    });
  }

  static void placing() {
    String four = "dale 0 99;keep 60 20;keep 60 20;keep 60 20;keep 60 20;person 0 4;person 1 4;person 2 9";
    s.test(19, "of all ways to carry KEEPS at HOME into FIELDS without any, any many, one into each at most, that by "
        + "which most is KEPT OFF there, together (FIELDS that have one do not count)", () -> {
      WinterKeep w = Given.dale(four + ";field 5;field 60");
      s.is("all are empty", w.placing(-1), 0);
      for (int k = 0; k < 4; k++) s.is("KEEP " + k + " stays", w.placing(k), -1);
      w.night();
      s.is("9 in FIELD 1, 4 in FIELD 0", w.placing(-1), 13);
      int[] goes = {-1, 0, 1, -1, -2, -2};
      for (int k = 0; k < 6; k++) s.is("where " + k + " goes", w.placing(k), goes[k]);
      w.carry(2, 0);
      s.is("FIELD 0 has one, which stays", w.placing(-1), 4);
      s.is("it stays", w.placing(2), -1);
      s.is("into FIELD 1", w.placing(1), 1);
      Bytes.dale(w, "dale 0 99;keep 9 20;person 0 2;field 1");
      s.is("a DALE of fewer KEEPS, empty", w.placing(-1) * 10 + w.placing(0), -1);
      w.night();
      s.is("FULL 2", w.placing(-1) * 10 + w.placing(0), 10);
      w = Given.dale(four + ";field 5;field 60");
      w.night();
      w.carry(2, 0);
      w.carry(0, 1);
      s.is("no FIELD is left", w.placing(-1), 0);
      for (int k = 0; k < 4; k++) s.is("KEEP " + k + " stays", w.placing(k), -1);
      w = three();
      s.is("neither one BURNT nor one in a FIELD", w.placing(-1), 10);
      s.is("BURNT", w.placing(0), -1);
      s.is("in a FIELD", w.placing(1), -1);
      s.is("at HOME", w.placing(2), 0);
      s.is("no FIELDS", Given.dale("dale 0 9;keep 1 0").placing(-1), 0);
      s.is("no KEEPS", Given.dale("dale 0 9;field 9").placing(-1), 0);
      w = Given.dale("dale 0 99" + ";keep 60 20".repeat(6) + ";person 0 1;person 1 2;person 2 3;person 3 4;person 5 5"
          + ";field 60;field 1;field 60;field 60");
      w.night();
      s.is("four FIELDS, 5 + 4 + 3 + 1", w.placing(-1), 13);
      int[] six = {-1, 1, 0, 2, -1, 3};
      for (int k = 0; k < 6; k++) s.is("where " + k + " goes", w.placing(k), six[k]);
    });
    s.test(19, "of several the one of fewest KEEPS, then the first (by KEEPS, at HOME ahead of FIELD 0)", () -> {
      WinterKeep w = Given.dale(four + ";field 0;field 9;field 4");
      w.night();
      // 9 in FIELD 1 and 4 in FIELD 2; FIELD 0 and KEEP 3 would bring nothing.
      s.is("13", w.placing(-1), 13);
      int[] goes = {-1, 2, 1, -1};
      for (int k = 0; k < 4; k++) s.is("where " + k + " goes", w.placing(k), goes[k]);
      w = Given.dale(four + ";field 4;field 4;field 4;field 4");
      w.night();
      int[] each = {0, 1, 2, -1};
      for (int k = 0; k < 4; k++) s.is("alike, where " + k + " goes", w.placing(k), each[k]);
      w = Given.dale(four + ";field 4");
      w.night();
      int[] last = {-1, -1, 0, -1};
      for (int k = 0; k < 4; k++) s.is("one FIELD, where " + k + " goes", w.placing(k), last[k]);
    });
    s.test(19, "what NONE: how much, 0 to 5: where that KEEP goes (NONE: it stays where it is; -2: there is none "
        + "such).", () -> {
      WinterKeep w = three();
      s.each("placing(#)", w::placing, -2, 3, 4, 5);
      s.each("placing(#) without KEEPS", n -> empty().placing(n), -2, 0, 5);
      s.is("how much without KEEPS", empty().placing(-1), 0);
      WinterKeep six = Given.dale("dale 0 1" + ";keep 1 0".repeat(6));
      s.each("placing(#) of six", six::placing, -1, 0, 5);
    });
    s.test(19, "-3 for others, or without a DALE.", () -> {
      WinterKeep w = three();
      s.nothingBy("placing(#)", w, w::placing, -3, 6, 7, -2, -3, LEAST, GREATEST);
      s.each("placing(#) without a DALE", n -> new WinterKeep().placing(n), -3, -1, 0, 5, 6, -2);
    });
  }

  static void springing() {
    s.test(20, "SPRING for n NIGHTS (0 to 60): the least number 0 to n of NIGHTS from now, behind which PLACING "
        + "brings most", () -> {
      WinterKeep w = Given.ruled("dale 0 99;keep 60 20;person 0 9;field 60", "tell 1 if night=59");
      s.is("60", w.spring(60, 0) * 100 + w.spring(60, 1), 6009);
      s.is("59: the least", w.spring(59, 0) * 100 + w.spring(59, 1), 0);
      w.night();
      s.is("59 from now", w.spring(59, 0) * 100 + w.spring(60, 1), 5909);
      w.force(-1);
      s.is("0", w.spring(0, 0) * 100 + w.spring(0, 1), 0);
      s.is("1", w.spring(1, 0) * 100 + w.spring(1, 1), 109);
      s.is("as FULL as its ROOM in 7", w.spring(60, 0) * 100 + w.spring(60, 1), 760);
      w.night();
      w.carry(0, 0);
      s.is("the FIELD has one", w.spring(60, 0) * 100 + w.spring(60, 1), 0);
      w = Given.dale("dale 0 3;keep 60 0;person 0 9;field 60");
      s.is("BURNT in the second", w.spring(60, 0) * 100 + w.spring(60, 1), 109);
      s.is("no KEEPS", empty().spring(60, 0) * 100 + empty().spring(60, 1), 0);
    });
    s.test(20, "NONE without these, or a DALE.", () -> {
      WinterKeep w = three();
      for (int what = 0; what < 2; what++) {
        int i = what;
        s.nothingBy("spring(#, " + i + ")", w, n -> w.spring(n, i), -1, 61, 62, -1, LEAST, GREATEST);
        s.each("spring(#, " + i + ") without a DALE", n -> new WinterKeep().spring(n, i), -1, 0, 60);
      }
      s.nothingBy("spring(1, #)", w, n -> w.spring(1, n), -1, 2, 3, -1, LEAST, GREATEST);
    });
  }

  /** Six KEEPS, each BESIDE all others. */
  static WinterKeep allBeside() {
    WinterKeep w = Given.dale("dale 0 1" + ";keep 4 0".repeat(6) + ";person 1 4");
    for (int i = 0; i < 6; i++) for (int j = 0; j < i; j++) w.seat(i, j);
    return w;
  }

  static void sitting() {
    s.test(21, "APART: the fewest benches, so that each KEEP that is not BURNT sits on one and no two BESIDE one "
        + "another on the same", () -> {
      s.is("no KEEPS", empty().apart(-1), 0);
      s.is("none BESIDE another", Given.dale("dale 0 1" + ";keep 1 0".repeat(6)).apart(-1), 1);
      s.is("one", Given.dale("dale 0 1;keep 1 0").apart(-1), 1);
      WinterKeep w = allBeside();
      s.is("six", w.apart(-1), 6);
      w.night();
      s.is("one is BURNT", w.apart(-1), 5);
      w.seat(0, 5);
      s.is("two may sit together", w.apart(-1), 4);
      WinterKeep burnt = Given.dale("dale 0 1;keep 4 0;person 0 4");
      burnt.night();
      s.is("all are BURNT", burnt.apart(-1), 0);
      s.is("one in a FIELD sits, too", three().apart(-1), 2);
    });
    s.test(21, "the bench (0 and on) of a KEEP in the first such way (KEEP 0 first, least numbers first)", () -> {
      WinterKeep w = allBeside();
      for (int k = 0; k < 6; k++) s.is("bench of " + k, w.apart(k), k);
      w.night();
      int[] five = {0, -1, 1, 2, 3, 4};
      for (int k = 0; k < 6; k++) s.is("1 is BURNT, bench of " + k, w.apart(k), five[k]);
      // 0 - 3 - 2 - 1: two benches, though 0 0 0 and then 1 for KEEP 3 can't be.
      w = Given.dale("dale 0 1" + ";keep 1 0".repeat(4) + ";beside 0 3;beside 3 2;beside 2 1");
      int[] row = {0, 1, 0, 1};
      for (int k = 0; k < 4; k++) s.is("in a row, bench of " + k, w.apart(k), row[k]);
      s.is("in a row", w.apart(-1), 2);
    });
    s.test(21, "what NONE: how many, 0 to 5: the bench of that KEEP (NONE: it is BURNT; -2: there is none "
        + "such).", () -> {
      WinterKeep w = three();
      int[] bench = {-1, 0, 1, -2, -2, -2};
      for (int k = 0; k < 6; k++) s.is("apart " + k, w.apart(k), bench[k]);
      s.each("apart(#) without KEEPS", n -> empty().apart(n), -2, 0, 5);
    });
    s.test(21, "-3 for others, or without a DALE.", () -> {
      WinterKeep w = three();
      s.nothingBy("apart(#)", w, w::apart, -3, 6, 7, -2, -3, LEAST, GREATEST);
      s.each("apart(#) without a DALE", n -> new WinterKeep().apart(n), -3, -1, 0, 5, 6, -2);
    });
    s.test(22, "CLASH: the largest set of KEEPS not BURNT, each two of which are BESIDE one another (one alone, "
        + "too), of several the least as bits: how many; the set.", () -> {
      s.is("no KEEPS", empty().clash(0) * 100 + empty().clash(1), 0);
      WinterKeep six = Given.dale("dale 0 1" + ";keep 1 0".repeat(6));
      s.is("one alone, the least", six.clash(0) * 100 + six.clash(1), 101);
      six.seat(4, 5);
      s.is("two", six.clash(0) * 100 + six.clash(1), 248);
      six.seat(0, 3);
      s.is("the least of two such", six.clash(0) * 100 + six.clash(1), 209);
      WinterKeep all = allBeside();
      s.is("all", all.clash(0) * 100 + all.clash(1), 663);
      all.night();
      s.is("but one that is BURNT", all.clash(0) * 100 + all.clash(1), 561);
      all.seat(0, 5);
      s.is("without 5", all.clash(0) * 100 + all.clash(1), 429);
      WinterKeep w = three();
      s.is("one in a FIELD, too", w.clash(0) * 100 + w.clash(1), 206);
      WinterKeep burnt = Given.dale("dale 0 1;keep 4 0;person 0 4");
      burnt.night();
      s.is("all are BURNT", burnt.clash(0) * 100 + burnt.clash(1), 0);
    });
    s.test(22, "NONE for others, or without a DALE.", () -> {
      WinterKeep w = three();
      s.nothingBy("clash(#)", w, w::clash, -1, 2, 3, -1, -2, LEAST, GREATEST);
      s.each("clash(#) without a DALE", n -> new WinterKeep().clash(n), -1, 0, 1, 2);
    });
  }

  static int silent(WinterKeep w, int n) {
    return (w.silent(n, 0) + 1) * 10000 + w.silent(n, 1) * 1000 + w.silent(n, 2);
  }

  static void silence() {
    s.test(23, "SILENT for n NIGHTS (1 to 40): the PERSON who had best not tell from now on, or nobody, so that "
        + "fewest KEEPS are BURNT then", () -> {
      WinterKeep w = Given.ruled("dale 0 2;keep 60 0;keep 60 20;person 1 1;person 0 8", "tell 1 if night=39;tell 1-person");
      s.is("39: nobody", silent(w, 39), 39);
      s.is("40: PERSON 1", silent(w, 40), 20040);
      w.night();
      s.is("39 from now: PERSON 1", silent(w, 39), 20040);
      w = Given.dale("dale 0 2;keep 60 0;keep 60 0;keep 60 20;person 2 3;person 0 8;person 1 8;person 1 8");
      s.is("1 of two KEEPS BURNT by PERSON 1, the other by 2 and 3", silent(w, 1), 21003);
      w.night();
      s.is("those that were BURNT count", silent(w, 1), 2006);
    });
    s.test(23, "of as many: that all are FULLEST, together", () -> {
      WinterKeep w = Given.dale("dale 0 3;keep 60 0;keep 60 20;person 0 8;person 0 7;person 1 5");
      // 15 is HEAT 3: BURNT; without 0 it is 7 + 5, without 1 8 + 5, without 2 BURNT.
      s.is("PERSON 1", silent(w, 1), 20013);
      w = Given.dale("dale 0 3;keep 60 0;keep 60 20;person 0 7;person 0 8;person 1 5");
      s.is("PERSON 0", silent(w, 1), 10013);
    });
    s.test(23, "of several nobody, then the least: who; how many; how FULL.", () -> {
      WinterKeep w = Given.dale("dale 0 3;keep 60 0;person 0 8;person 0 8");
      s.is("either: the least", silent(w, 1), 10008);
      w = Given.dale("dale 0 99;keep 60 0;person 0 0;person 0 0");
      s.is("nobody tells anything", silent(w, 40), 0);
      s.is("no PEOPLE", silent(Given.dale("dale 0 1;keep 1 0"), 1), 0);
      s.is("no KEEPS", silent(empty(), 40), 0);
      w = Given.dale("dale 0 1;keep 60 0;person 0 4;person 0 4");
      s.is("BURNT by either: nobody", silent(w, 1), 1000);
    });
    s.test(23, "0: who (NONE: nobody), 1: how many, 2: how FULL.", () -> {
      WinterKeep w = Given.dale("dale 0 2;keep 9 0;keep 60 20;person 1 7;person 0 7;person 0 2");
      // Without 1 it is 7 + 2, without 2 7 + 7.
      s.is("who", w.silent(1, 0), 2);
      s.is("how many", w.silent(1, 1), 0);
      s.is("how FULL", w.silent(1, 2), 14);
      WinterKeep five = Given.dale("dale 0 2;keep 60 20;keep 60 0" + ";person 0 9".repeat(4) + ";person 1 8");
      s.is("the last of five", five.silent(1, 0), 4);
      WinterKeep nobody = Given.dale("dale 0 99;keep 60 20;person 0 9");
      s.is("nobody", nobody.silent(1, 0), -1);
    });
    s.test(23, "-2 without these, or a DALE.", () -> {
      WinterKeep w = three();
      for (int what = 0; what < 3; what++) {
        int i = what;
        s.nothingBy("silent(#, " + i + ")", w, n -> w.silent(n, i), -2, 0, 41, 42, -1, LEAST, GREATEST);
        s.each("silent(#, " + i + ") without a DALE", n -> new WinterKeep().silent(n, i), -2, 1, 40);
      }
      s.nothingBy("silent(1, #)", w, n -> w.silent(1, n), -2, 3, 4, -1, LEAST, GREATEST);
    });
  }

  static void mostTold() {
    s.test(24, "MOST for a PERSON and n NIGHTS (1 to 60): the greatest number 0 to 9 as what they TELL, in place of "
        + "what it is, by which their KEEP, not BURNT now, is not then.", () -> {
      WinterKeep w = Given.ruled("dale 0 2;keep 60 0;person 0 0;person 0 9", "tell 1 if night=59 and person=0");
      s.is("in 59", w.most(0, 59), 9);
      s.is("in 60: HEAT of 8 is 2", w.most(0, 60), 7);
      w.night();
      s.is("59 from now", w.most(0, 59), 7);
      for (int hot = 1; hot <= 5; hot++) {
        w = Given.dale("dale 0 " + hot + ";keep 60 0;person 0 8;person 0 8");
        int[] most = {-2, -2, 3, 7, 9};
        s.is("8 more, HOT " + hot, w.most(1, 1), most[hot - 1]);
      }
      w = Given.dale("dale 0 3;keep 60 0;person 0 9;person 0 2");
      s.is("0 alone: HEAT of 2, 4, 6 is 2", w.most(0, 3), 0);
      w = Given.dale("dale 0 1;keep 60 0;person 0 9;field 0");
      w.carry(0, 0);
      s.is("in a FIELD", w.most(0, 60), 9);
      w = Given.ruled("dale 0 2;keep 60 0;person 0 9", "tell 1 if tells>7");
      s.is("by what they TELL then", w.most(0, 1), 7);
      w = Given.dale("dale 0 2;keep 60 20;keep 60 0" + ";person 0 1".repeat(4) + ";person 1 1");
      s.is("the last PERSON", w.most(4, 1), 7);
    });
    s.test(24, "-2: by none", () -> {
      WinterKeep w = Given.dale("dale 0 3;keep 60 0;person 0 9;person 0 2");
      s.is("HEAT of 2, 4, 6, 8 is 4", w.most(0, 4), -2);
      w = Given.dale("dale 0 2;keep 60 0;person 0 7");
      w.night();
      s.is("HEAT 1, 1 more by 7 alone", w.most(0, 1), -2);
    });
    s.test(24, "NONE without these (a KEEP that is not BURNT).", () -> {
      WinterKeep w = three();
      s.nothingBy("most(#, 1), its KEEP is BURNT", w, n -> w.most(n, 1), -1, 0, 1);
      s.nothingBy("most(#, 1)", w, n -> w.most(n, 1), -1, 4, 5, -1, LEAST, GREATEST);
      s.nothingBy("most(3, #)", w, n -> w.most(3, n), -1, 0, 61, 62, -1, LEAST, GREATEST);
      s.each("most(3, #)", n -> w.most(3, n), 9, 1, 60);
      s.each("most(#, 1) without PEOPLE", n -> Given.dale("dale 0 1;keep 1 0").most(n, 1), -1, 0, -1);
      s.each("most(#, 1) without a DALE", n -> new WinterKeep().most(n, 1), -1, 0, -1);
    });
  }

  static int had(WinterKeep w, int n, int much) { return w.had(0, n, much, 0) * 100 + w.had(0, n, much, 1); }

  static void having() {
    s.test(25, "HAD of a KEEP that is not BURNT for n NIGHTS (1 to 40) and a number (0 to 60): numbers 0 to its ROOM "
        + "of how FULL it can be now, in place of how it is, all else as it is, by which it is just that FULL "
        + "then", () -> {
      WinterKeep w = Given.ruled("dale 0 99;keep 60 20;person 0 9", "tell 1 if night=39", "tell 0");
      s.is("9 in 39", had(w, 39, 9), 109);
      s.is("9 in 40", had(w, 40, 9), 100);
      s.is("60 in 40: from 51 on", had(w, 40, 60), 1051);
      s.is("0 in 39", had(w, 39, 0), 100);
      s.is("0 in 40", had(w, 40, 0), -2);
      w.force(1);
      s.is("60 in 1", had(w, 1, 60), 160);
      w.force(-1);
      w.night();
      s.is("in place of how it is", had(w, 1, 9), 100);
      s.is("10 in 1", had(w, 1, 10), 101);
      w = Given.ruled("dale 0 99;keep 5 20;person 0 0", "tell 1");
      s.is("its ROOM", had(w, 1, 5), 105);
      s.is("beyond its ROOM", had(w, 1, 6), -2);
      w = Given.ruled("dale 2 99;keep 60 20;keep 60 20;person 1 8;person 1 0;beside 0 1;field 0",
          "tell 1 if night=0 or person=1");
      w.night();
      // KEEP 1 has 8 and stays: 0 to 5 overhear 2.
      s.is("5 by 3, which overhears, not by 5", had(w, 1, 5), 103);
      s.is("7 by 5 and by 7", had(w, 1, 7), 205);
      w.carry(0, 0);
      s.is("in a FIELD", had(w, 1, 7), 107);
    });
    s.test(25, "and not BURNT: how many; the least.", () -> {
      WinterKeep w = Given.dale("dale 0 2;keep 9 0");
      s.is("0 by 0 alone, not by those that are BURNT", had(w, 1, 0), 100);
      s.is("7", had(w, 1, 7), 107);
      s.is("8 is BURNT", had(w, 1, 8), -2);
      s.is("0 in 40", had(w, 40, 0), 100);
      s.is("4 in 1", had(w, 1, 4), 104);
      s.is("4 in 2 is BURNT", had(w, 2, 4), -2);
    });
    s.test(25, "(-2: there is none)", () -> {
      WinterKeep w = Given.dale("dale 0 99;keep 9 20;person 0 4");
      s.is("how many", w.had(0, 1, 3, 0), 0);
      s.is("the least", w.had(0, 1, 3, 1), -2);
    });
    s.test(25, "NONE without these.", () -> {
      WinterKeep w = three();
      for (int what = 0; what < 2; what++) {
        int i = what;
        s.nothingBy("had(#, 1, 1, " + i + ")", w, n -> w.had(n, 1, 1, i), -1, 0, 3, 5, 6, -1, LEAST, GREATEST);
        s.nothingBy("had(2, #, 1, " + i + ")", w, n -> w.had(2, n, 1, i), -1, 0, 41, 42, -1, LEAST, GREATEST);
        s.nothingBy("had(2, 1, #, " + i + ")", w, n -> w.had(2, 1, n, i), -1, 61, 62, -1, LEAST, GREATEST);
        s.each("had(0, 1, #, " + i + ") without a DALE", n -> new WinterKeep().had(0, 1, n, i), -1, 0, 60);
      }
      s.nothingBy("had(2, 1, 1, #)", w, n -> w.had(2, 1, 1, n), -1, 2, 3, -1, LEAST, GREATEST);
    });
  }

  static int rests(WinterKeep w, int n) {
    return w.rests(0, 1, n, 0) * 100 + w.rests(0, 1, n, 1) * 10 + w.rests(0, 1, n, 2);
  }

  static void resting() {
    String two = ";keep 60 0;keep 60 0;person 0 1;person 1 1;field 0";
    s.test(26, "RESTS of two PEOPLE for n NIGHTS (1 to 20): each TELLS 0, 3, 6 or 9 from now on", () -> {
      WinterKeep w = Given.ruled("dale 0 99" + two, "tell 1 if night=19");
      s.is("in 19 all", rests(w, 19), 1600);
      s.is("in 20 both 9", rests(w, 20), 199);
      w.night();
      s.is("19 from now both 9", rests(w, 19), 199);
      int[] hots = {1, 2, 3};
      int[] one = {133, 166, 199};
      for (int i = 0; i < 3; i++) s.is("HOT " + hots[i], rests(Given.dale("dale 0 " + hots[i] + two), 1), one[i]);
      s.is("from 3 on BURNT in the second", rests(Given.dale("dale 0 1" + two), 2), 100);
      w = Given.ruled("dale 0 99" + two, "tell 1 if tells<7");
      s.is("by what they TELL then", rests(w, 1), 166);
    });
    s.test(26, "each has how FULL their KEEP is then, less 20, if it is BURNT then", () -> {
      // In two NIGHTS 3, 6 and 9 are BURNT, by which 0 alone rests.
      s.is("empty is better than BURNT", rests(Given.dale("dale 0 1" + two), 2), 100);
      // One KEEP for both: 8 and more is BURNT.
      s.is("of one KEEP", rests(Given.dale("dale 0 2;keep 60 0;person 0 1;person 0 1"), 1), 406);
      WinterKeep w = Given.dale("dale 0 1" + two);
      w.night();
      w.carry(0, 0);
      s.is("one in a FIELD can't do better", rests(w, 1), 400);
    });
    s.test(26, "twos of which neither would have more by another one: how many; the first (by the first one, then "
        + "the second one).", () -> {
      WinterKeep w = Given.dale("dale 0 2" + two);
      w.carry(0, 0);
      s.is("the first may tell as they like", rests(w, 1), 406);
      s.is("the other way round", w.rests(1, 0, 1, 1) * 10 + w.rests(1, 0, 1, 2), 60);
      w.fetch(0);
      w.carry(1, 0);
      s.is("the second may tell as they like", rests(w, 1), 460);
      // One KEEP for both; the second tells if it is below 9: both have a + b, but 9 if the first TELLS 9.
      // 6 9 (15) rests, and so do 9 0 and 9 3, which neither alone can make more than 9.
      w = Given.ruled("dale 0 99;keep 60 20;person 0 1;person 0 1", "tell 1 if person=0 or full<9");
      s.is("three", rests(w, 1), 369);
      // The other way round 0 9, 3 9 and 9 6.
      s.is("three the other way round", w.rests(1, 0, 1, 0) * 100 + w.rests(1, 0, 1, 1) * 10 + w.rests(1, 0, 1, 2), 309);
      w = Given.dale("dale 0 2;keep 60 0;keep 60 20" + ";person 1 1".repeat(4) + ";person 0 1");
      s.is("the last PERSON", w.rests(4, 0, 1, 1) * 10 + w.rests(4, 0, 1, 2), 69);
    });
    s.test(26, "1, 2: what the first two TELL (-2: there is none).", () -> {
      WinterKeep w = Given.ruled("dale 4 8;keep 14 0;keep 29 1;person 0 9;person 1 0;beside 0 1",
          "tell 1 if full<8 or full>tells");
      s.is("how many", w.rests(0, 1, 4, 0), 0);
      s.is("the first", w.rests(0, 1, 4, 1), -2);
      s.is("the second", w.rests(0, 1, 4, 2), -2);
    });
    s.test(26, "NONE without these (unlike).", () -> {
      WinterKeep w = three();
      for (int what = 0; what < 3; what++) {
        int i = what;
        s.nothingBy("rests(#, #, 1, " + i + ")", w, n -> w.rests(n, n, 1, i), -1, 0, 1, 2, 3, 4, -1, LEAST, GREATEST);
        s.nothingBy("rests(#, 0, 1, " + i + ")", w, n -> w.rests(n, 0, 1, i), -1, 4, 5, -1, LEAST, GREATEST);
        s.nothingBy("rests(0, #, 1, " + i + ")", w, n -> w.rests(0, n, 1, i), -1, 4, 5, -1, LEAST, GREATEST);
        s.nothingBy("rests(2, 3, #, " + i + ")", w, n -> w.rests(2, 3, n, i), -1, 0, 21, 22, -1, LEAST, GREATEST);
        s.each("rests(0, #, 1, " + i + ") without a DALE", n -> new WinterKeep().rests(0, n, 1, i), -1, 0, 1);
      }
      s.nothingBy("rests(2, 3, 1, #)", w, n -> w.rests(2, 3, 1, n), -1, 3, 4, -1, LEAST, GREATEST);
      s.each("rests(0, #, 20, 0): their KEEP is BURNT", n -> w.rests(0, n, 20, 0), 16, 1);
    });
  }

  static int ring(WinterKeep w) { return w.ring(0) * 100 + w.ring(1); }

  static void ringing() {
    s.test(27, "RING: the first NIGHT, this one the first, of 60, at whose begin all KEEPS are as FULL, have as much "
        + "HEAT and are where they are at the begin of a later one, 60 NIGHTS from now at most; how much later the "
        + "first such is.", () -> {
      s.is("no KEEPS: this one", ring(empty()), 1);
      WinterKeep w = Given.dale("dale 0 99;keep 60 20;person 0 1",
          "tell 1 if night<3", "tell 1 if night<59", "tell 1 if night>3");
      s.is("60 is the begin of NIGHT 60, too late", ring(w), -202);
      w.force(1);
      s.is("NIGHT 59 and 60", ring(w), 5901);
      w.force(0);
      s.is("NIGHT 3 and 4", ring(w), 301);
      w.force(2);
      s.is("this one and the next", ring(w), 1);
      w.force(-1);
      w.night();
      s.is("NIGHT 60 and 61", ring(w), 6001);
      w = Given.ruled("dale 0 99;keep 60 0;person 0 4", "tell 1 if night=0");
      // HEAT is 1 more in each NIGHT.
      s.is("not by FULL alone", ring(w), -202);
      Given.nights(w, 39);
      s.is("HEAT is 98 at the begin of 98, BURNT behind: 99 and 100, too late", ring(w), -202);
      w.night();
      s.is("BURNT: NIGHT 99 and 100", ring(w), 9901);
      w = Given.dale("dale 0 1;keep 4 0;person 0 4");
      s.is("not by FULL and HEAT alone: BURNT behind NIGHT 0", ring(w), 101);
      w = Given.dale("dale 0 99;keep 9 20;keep 60 20;keep 9 20;keep 9 20;keep 9 20;keep 60 20;person 1 4;person 5 4",
          "tell 1 if person=1", "tell 1 if person=0");
      for (int r = 0; r < 2; r++) {
        w.force(r);
        s.is("by all KEEPS", ring(w), 1501);
      }
      for (int k = 0; k < 6; k++) {
        w = Given.dale("dale 0 99" + ";keep 60 20".repeat(6) + ";person " + k + " 2");
        s.is("by KEEP " + k, ring(w), 3001);
      }
      // KEEP 1 or 0 is BURNT behind NIGHT 0, the other one is FULL 30 behind NIGHT 14.
      for (int k = 0; k < 2; k++) {
        String[] keeps = {";keep 30 20", ";keep 30 0"};
        w = Given.dale("dale 0 1" + keeps[k] + keeps[1 - k] + ";person " + k + " 2;person " + (1 - k) + " 9");
        s.is("by one that is not BURNT", ring(w), 1501);
      }
    });
    s.test(27, "-2: there is none.", () -> {
      WinterKeep w = Given.dale("dale 0 99;keep 60 20;person 0 1");
      s.is("the NIGHT", w.ring(0), -2);
      s.is("how much later", w.ring(1), -2);
    });
    s.test(27, "NONE for others, or without a DALE.", () -> {
      WinterKeep w = three();
      s.nothingBy("ring(#)", w, w::ring, -1, 2, 3, -1, -2, LEAST, GREATEST);
      s.each("ring(#) without a DALE", n -> new WinterKeep().ring(n), -1, 0, 1, 2);
    });
  }

  static void parting() {
    s.test(28, "PENCE (0 to 9999) among KEEPS by how FULL they are: each the part downwards; what is left, one each, "
        + "to those whose part lost most by that, of several the least first", () -> {
      WinterKeep w = Given.dale("dale 0 99" + ";keep 9 20".repeat(4) + ";person 0 1;person 1 2;person 2 4");
      w.night();
      // Of 7: 10, 20, 40 and 0 by 7 are 1, 2, 5 and 0, rests 3, 6, 5 and 0; two are left.
      int[] ten = {1, 3, 6, 0};
      // Of 7: 9999, 19998, 39996 by 7 are 1428, 2856, 5713, rests 3, 6, 5; two are left.
      int[] most = {1428, 2857, 5714, 0};
      for (int k = 0; k < 4; k++) {
        s.is("10 for " + k, w.pence(10, k), ten[k]);
        s.is("9999 for " + k, w.pence(9999, k), most[k]);
        s.is("0 for " + k, w.pence(0, k), 0);
        s.is("7 for " + k, w.pence(7, k), w.keep(k, 2));
        s.is("1 for " + k, w.pence(1, k), k == 2 ? 1 : 0);
      }
      w = Given.dale("dale 0 99" + ";keep 9 20".repeat(6) + ";person 1 3;person 2 3;person 3 3;person 4 3;person 5 3");
      w.night();
      for (int much = 0; much <= 6; much++) {
        s.is(much + " for 0", w.pence(much, 0), 0);
        for (int k = 1; k < 6; k++) s.is(much + " for " + k, w.pence(much, k), much / 5 + (k <= much % 5 ? 1 : 0));
      }
      w = Given.dale("dale 0 99;keep 9 20;keep 9 20;person 1 1");
      w.night();
      s.is("1 in all", w.pence(9999, 1), 9999);
      s.is("1 in all, not this one", w.pence(9999, 0), 0);
      w = three();
      s.is("nothing for one that is BURNT", w.pence(19, 0), 0);
      s.is("one in a FIELD", w.pence(19, 1), 9);
      s.is("one at HOME", w.pence(19, 2), 10);
    });
    s.test(28, "(nothing, if all are empty)", () -> {
      WinterKeep w = Given.dale("dale 0 1;keep 4 0;keep 9 0;person 0 4");
      for (int i = 0; i < 2; i++) {
        for (int k = 0; k < 2; k++) s.is("9999 for " + k, w.pence(9999, k), 0);
        w.night();
      }
    });
    s.test(28, "NONE without these.", () -> {
      WinterKeep w = three();
      s.nothingBy("pence(#, 2)", w, n -> w.pence(n, 2), -1, 10000, 10001, -1, LEAST, GREATEST);
      s.nothingBy("pence(1, #)", w, n -> w.pence(1, n), -1, 3, 5, 6, -1, LEAST, GREATEST);
      s.each("pence(#, 0) without KEEPS", n -> empty().pence(n, 0), -1, 0, 1);
      s.each("pence(#, 0) without a DALE", n -> new WinterKeep().pence(n, 0), -1, 0, 1);
    });
  }

  /** By none and three RULES two KEEPS have 60 60, 60 59, 59 60 and 60 60 at the begin of NIGHT 60, 59 59 at that of 59. */
  static WinterKeep sixty() {
    return Given.dale("dale 0 99;keep 60 20;keep 60 20;person 0 1;person 1 1", "tell 1 if night<59 or person=0",
        "tell 1 if night<59 or person=1", "tell 1");
  }

  static int look(WinterKeep w, int n) { return w.look(n, 0) * 10 + w.look(n, 1); }

  static void noting() {
    s.test(29, "NOTES 0 to 9, told: at the begin of the n-th NIGHT of all (0 to 60) a KEEP was so FULL (0 to "
        + "60).", () -> {
      WinterKeep w = sixty();
      s.is("NIGHT 0, FULL 0", w.note(0, 0, 0), 1);
      s.is("all are so", w.ruled(0), 4);
      s.is("NIGHT 60, FULL 60", w.note(60, 1, 60), 2);
      s.is("but RULE 0", w.ruled(0), 3);
      s.is("NIGHT 59", w.note(59, 1, 59), 3);
      s.is("these, too", w.ruled(0), 3);
      s.is("NIGHT 59, not so", w.note(59, 1, 60), 4);
      s.is("none", w.ruled(0), 0);
    });
    s.test(29, "A NOTE (n NONE: there are none then, 0): how many", () -> {
      WinterKeep w = sixty();
      s.is("none", w.note(-1, 0, 0), 0);
      for (int i = 1; i <= 10; i++) s.is("NOTE " + i, w.note(0, 1, 1), i);
      s.is("none is so", w.ruled(0), 0);
      s.is("NONE, whatever else", w.note(-1, 99, -99), 0);
      s.is("NOTES", w.count(12), 0);
      s.is("all are so", w.ruled(0), 4);
      s.is("the first again", w.note(0, 0, 0), 1);
      s.is("without a DALE", new WinterKeep().note(-1, 0, 0), 0);
    });
    s.test(29, "-2, and nothing happens, without these, or if there are 10.", () -> {
      WinterKeep w = sixty();
      s.nothingBy("note(#, 0, 0)", w, n -> w.note(n, 0, 0), -2, 61, 62, -2, LEAST, GREATEST);
      s.nothingBy("note(0, #, 0)", w, n -> w.note(0, n, 0), -2, 2, 5, 6, -1, LEAST, GREATEST);
      s.nothingBy("note(0, 0, #)", w, n -> w.note(0, 0, n), -2, 61, 62, -1, LEAST, GREATEST);
      s.each("note(0, 0, #) without a DALE", n -> new WinterKeep().note(0, 0, n), -2, 0, 60);
      for (int i = 0; i < 9; i++) w.note(0, 0, 0);
      s.is("the tenth", w.note(60, 0, 60), 10);
      s.nothingBy("note(0, 0, #), there are 10", w, n -> w.note(0, 0, n), -2, 0, 1, 60);
      s.is("the tenth is one, the eleventh none", w.ruled(0), 3);
      s.is("none", w.note(-1, 0, 0), 0);
      s.is("the first", w.note(0, 0, 0), 1);
    });
    s.test(30, "RULED: which of the RULES, and of none, so that from the begin on, all as the text told it, all "
        + "NOTES are so: how many; the first (none ahead of 0, told as NONE).", () -> {
      WinterKeep w = sixty();
      s.is("no NOTES", w.ruled(0) * 10 + w.ruled(1), 39);
      w.note(60, 1, 59);
      s.is("RULE 0 alone", w.ruled(0) * 10 + w.ruled(1), 10);
      w.note(-1, 0, 0);
      w.note(60, 0, 59);
      s.is("RULE 1 alone", w.ruled(0) * 10 + w.ruled(1), 11);
      w.note(-1, 0, 0);
      w.note(60, 1, 60);
      s.is("none, 1 and 2", w.ruled(0) * 10 + w.ruled(1), 29);
      w.note(60, 0, 60);
      w.force(1);
      Given.nights(w, 2);
      w.seat(0, 1);
      s.is("from the begin on", w.ruled(0) * 10 + w.ruled(1), 19);
      s.is("none alone, without RULES", Given.dale("dale 0 1").ruled(0), 1);
      s.is("none alone, without RULES", Given.dale("dale 0 1").ruled(1), -1);
      WinterKeep told = Given.dale("dale 2 99;keep 60 20;keep 60 20;person 0 9;beside 0 1");
      told.note(1, 1, 2);
      told.seat(0, 1);
      told.night();
      s.is("BESIDE as the text told it", told.ruled(0), 1);
    });
    s.test(30, "1: the first (NONE: none; -2: there is none such).", () -> {
      WinterKeep w = sixty();
      s.is("none", w.ruled(1), -1);
      w.note(0, 0, 1);
      s.is("there is none such", w.ruled(1), -2);
      s.is("how many", w.ruled(0), 0);
    });
    s.test(30, "-3 for others, or without a DALE.", () -> {
      WinterKeep w = sixty();
      s.nothingBy("ruled(#)", w, w::ruled, -3, 2, 3, -1, -2, LEAST, GREATEST);
      s.each("ruled(#) without a DALE", n -> new WinterKeep().ruled(n), -3, 0, 1, 2);
    });
  }

  static void lookingNext() {
    s.test(31, "LOOK at the begin of the n-th NIGHT: the KEEP by how FULL it is these part best: the most alike are "
        + "fewest, of several the least; how many.", () -> {
      WinterKeep w = sixty();
      s.is("at 0 all are alike", look(w, 0), 4);
      s.is("at 59, too", look(w, 59), 4);
      s.is("at 60 by either", look(w, 60), 3);
      w.note(60, 0, 60);
      s.is("by KEEP 1, two and one", look(w, 60), 12);
      w.note(60, 1, 59);
      s.is("one alone: KEEP 0", look(w, 60), 1);
      s.is("one alone: KEEP 0", look(w, 0), 1);
      w = Given.dale("dale 0 99;keep 60 20;keep 60 20;keep 60 20;person 1 1;person 2 1;person 2 1",
          "tell person", "tell 1-person", "tell person-1", "tell 0", "tell 1 if person=1", "tell 1");
      // At 1, KEEP 1 and 2: none 1 2, then 0 2, 1 0, 0 1, 0 0, 0 1, 1 2.
      s.is("by KEEP 2, 3 of seven", look(w, 1), 23);
      w.note(1, 2, 2);
      s.is("by KEEP 1, 2 of three", look(w, 1), 12);
      w = Given.dale("dale 0 99;keep 60 20;keep 60 20;person 1 2;person 1 3", "tell 1-person", "tell 1-person", "tell 1-person");
      s.is("the most alike without none, 3 of four", look(w, 1), 13);
      for (int k = 0; k < 6; k++) {
        w = Given.dale("dale 0 99" + ";keep 60 20".repeat(6) + (";person " + k + " 1").repeat(5), "tell 0", "tell 1-person",
            "tell 2-person", "tell 3-person", "tell 4-person", "tell person");
        // FULL 5 by none, then 0, 1, 2, 3, 4 and 4.
        s.is("by KEEP " + k + " alone", look(w, 1), 10 * k + 2);
        s.is("not at 0", look(w, 0), 7);
      }
    });
    s.test(31, "(n 0 to 60) what 0: the KEEP, 1: how many; -2: no RULE is so, or there are no KEEPS.", () -> {
      WinterKeep w = sixty();
      w.note(0, 0, 1);
      for (int what = 0; what < 2; what++) {
        int i = what;
        s.each("look(#, " + i + "), none is so", n -> w.look(n, i), -2, 0, 1, 60);
        s.each("look(#, " + i + ") without KEEPS", n -> empty().look(n, i), -2, 0, 60);
      }
      s.is("without RULES, none alone", look(Given.dale("dale 0 1;keep 1 0"), 60), 1);
    });
    s.test(31, "NONE without these, or a DALE.", () -> {
      WinterKeep w = sixty();
      for (int what = 0; what < 2; what++) {
        int i = what;
        s.nothingBy("look(#, " + i + ")", w, n -> w.look(n, i), -1, 61, 62, -1, -2, LEAST, GREATEST);
        s.each("look(#, " + i + ") without a DALE", n -> new WinterKeep().look(n, i), -1, 0, 60);
        s.each("look(#, " + i + ") without KEEPS", n -> empty().look(n, i), -1, 61, -1);
      }
      s.nothingBy("look(0, #)", w, n -> w.look(0, n), -1, 2, 3, -1, LEAST, GREATEST);
    });
  }

  /** A KEEP with HEAT 1, which is BURNT in the next NIGHT, HEAT 2, but behind a frost. */
  static WinterKeep cold() {
    WinterKeep w = Given.dale("dale 0 2;keep 4 0;person 0 4");
    w.night();
    return w;
  }

  static void drawing() {
    s.test(32, "x (0 to 2147483647; 0 at first)", () -> {
      WinterKeep w = new WinterKeep();
      s.is("0 at first", w.seed(2147483647), 0);
      s.is("the greatest", w.count(14), 2147483647);
      s.is("it was", w.seed(0), 2147483647);
      s.is("the least", w.count(14), 0);
    });
    s.test(32, "x becomes a number: what it was", () -> {
      WinterKeep w = cold();
      w.seed(5);
      s.is("5 was", w.seed(5), 5);
      s.is("5 was", w.seed(6), 5);
      s.is("6", w.count(14), 6);
    });
    s.test(32, "NONE, and nothing happens, below 0.", () -> {
      WinterKeep w = cold();
      w.seed(9);
      s.nothingBy("seed(#)", w, w::seed, -1, -1, -2, LEAST);
    });
    s.test(33, "x * 1103515245 + 12345, of 2147483648 the rest; a DRAW is x / 65536.", () -> {
      WinterKeep w = cold();
      // x 0 becomes 12345, a DRAW of 0; 2147483647 becomes 1043980748, of 15929; 1 becomes 1103527590, of 16838;
      // 194 has a DRAW of 22599.
      int[][] draws = {{0, 0}, {2147483647, 29}, {1, 38}, {194, 99}};
      for (int[] draw : draws) {
        w.seed(draw[0]);
        s.is("x " + draw[0] + ", p " + draw[1], w.frosts(1, 1, draw[1], 0), 1);
        s.is("x " + draw[0] + ", p " + (draw[1] + 1), w.frosts(1, 1, draw[1] + 1, 0), 0);
      }
    });
    s.test(33, "FROSTS m times (1 to 10) n NIGHTS (1 to 60) from now on", () -> {
      WinterKeep w = Given.ruled("dale 0 1;keep 4 0;keep 9 20;person 0 4;person 1 3", "tell 1 if night=59");
      for (int m = 1; m <= 10; m++) {
        s.is(m + " times 59", w.frosts(m, 59, 0, 0) * 1000 + w.frosts(m, 59, 0, 1), 0);
        s.is(m + " times 60", w.frosts(m, 60, 0, 0) * 1000 + w.frosts(m, 60, 0, 1), 1003 * m);
      }
      w.night();
      s.is("59 from now", w.frosts(1, 59, 0, 0), 1);
      w.force(-1);
      s.is("1 from now", w.frosts(1, 1, 0, 0), 1);
    });
    s.test(33, "ahead of each a DRAW mod 100: is it below p (0 to 100), and are there KEEPS, a DRAW mod how many: of "
        + "that one HEAT is 0", () -> {
      WinterKeep w = cold();
      for (int x = 0; x < 300; x++) {
        w.seed(x);
        s.is("p 0, x " + x, w.frosts(1, 1, 0, 0), 1);
        s.is("p 100, x " + x, w.frosts(1, 1, 100, 1), 4);
      }
      // Four KEEPS, by how FULL they are; from x 0, 1, 2, 3 the second DRAWS are 21468, 5758, 22817, 7107.
      WinterKeep four = Given.dale("dale 0 2;keep 4 0;keep 5 0;keep 6 0;keep 7 0;"
          + "person 0 4;person 1 5;person 2 6;person 3 7");
      four.night();
      int[] of = {4, 6, 5, 7};
      for (int x = 0; x < 4; x++) {
        four.seed(x);
        s.is("the one that is not BURNT, x " + x, four.frosts(1, 1, 100, 1), of[x]);
        s.is("three are", four.frosts(1, 1, 100, 0), 3);
      }
      // From x 0, p 69: a frost ahead of the first NIGHT, when there is no HEAT; 88 ahead of the second.
      four.undo();
      four.seed(0);
      s.is("behind the first NIGHT", four.frosts(1, 1, 69, 0), 0);
      s.is("behind the second all are BURNT", four.frosts(1, 2, 69, 0), 4);
      s.is("no KEEPS", empty().frosts(10, 60, 100, 0) + empty().frosts(10, 60, 100, 1), 0);
      // KEEP 0 is BURNT, and counts: 21468 mod 2 is that one, 22817 mod 2 the other.
      WinterKeep two = Given.dale("dale 0 2;keep 60 0;keep 4 0;person 0 9;person 1 4");
      s.is("KEEP 0 is BURNT", two.night(), 1);
      two.seed(0);
      s.is("frost for the one that is BURNT", two.frosts(1, 1, 100, 0) * 10 + two.frosts(1, 1, 100, 1), 20);
      two.seed(2);
      s.is("frost for the other", two.frosts(1, 1, 100, 0) * 10 + two.frosts(1, 1, 100, 1), 14);
    });
    s.test(33, "how many are BURNT at the end; how FULL all are then, all together (nothing stays; x as it "
        + "was).", () -> {
      WinterKeep w = cold();
      // From x 0, mod 100: 0 68 88 17 98 27; one DRAW a time, a second one if it is below p.
      w.seed(0);
      s.is("p 20: a frost, none, one, none", w.frosts(1, 1, 20, 0), 0);
      s.is("two times", w.frosts(2, 1, 20, 0) * 10 + w.frosts(2, 1, 20, 1), 14);
      s.is("three times", w.frosts(3, 1, 20, 0) * 10 + w.frosts(3, 1, 20, 1), 18);
      s.is("four times", w.frosts(4, 1, 20, 0) * 10 + w.frosts(4, 1, 20, 1), 28);
      s.nothingBy("frosts(10, 60, #, 0)", w, n -> w.frosts(10, 60, n, 0) >= 0 ? 0 : 1, 0, 0, 50, 100);
      s.is("x", w.seed(0), 0);
    });
    s.test(33, "NONE without these, or a DALE.", () -> {
      WinterKeep w = three();
      for (int what = 0; what < 2; what++) {
        int i = what;
        s.nothingBy("frosts(#, 1, 1, " + i + ")", w, n -> w.frosts(n, 1, 1, i), -1, 0, 11, 12, -1, LEAST, GREATEST);
        s.nothingBy("frosts(1, #, 1, " + i + ")", w, n -> w.frosts(1, n, 1, i), -1, 0, 61, 62, -1, LEAST, GREATEST);
        s.nothingBy("frosts(1, 1, #, " + i + ")", w, n -> w.frosts(1, 1, n, i), -1, 101, 102, -1, LEAST, GREATEST);
        s.each("frosts(1, 1, #, " + i + ") without a DALE", n -> new WinterKeep().frosts(1, 1, n, i), -1, 0, 100);
      }
      s.nothingBy("frosts(1, 1, 1, #)", w, n -> w.frosts(1, 1, 1, n), -1, 2, 3, -1, LEAST, GREATEST);
    });
  }

  public static void main(String[] args) {
    asking();
    burning();
    placing();
    springing();
    sitting();
    silence();
    mostTold();
    having();
    resting();
    ringing();
    parting();
    noting();
    lookingNext();
    drawing();
    s.end();
  }
}
