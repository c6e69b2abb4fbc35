/** Promises 7 to 15, 34 to 36, and NIGHTS: each sentence that names a boundary, with a test of its own. */
public final class ActBoundariesTest {
  static final Sentences s = new Sentences("ActBoundariesTest", 7, 8, 9, 10, 11, 12, 13, 14, 15, 34, 35, 36);

  static final int LEAST = Integer.MIN_VALUE;
  static final int GREATEST = Integer.MAX_VALUE;

  /** One KEEP of each kind: behind two NIGHTS 0 is BURNT, 1 in FIELD 1, FULL 9, and 2 at HOME, FULL 10. */
  static final String THREE = "dale 0 9;keep 60 0;keep 60 1;keep 60 20;person 0 9;person 0 9;person 1 9;person 2 5;"
      + "field 60;field 7;beside 0 1;beside 1 2";

  static WinterKeep three() {
    WinterKeep w = Given.dale(THREE);
    w.night();
    w.carry(1, 1);
    w.night();
    return w;
  }

  static void looking() {
    s.test(7, "0: ROOM, 1: COOLS, 2: how FULL, 3: HEAT, 4: the FIELD it is in (NONE: at HOME, -2: BURNT), 5: KEEPS "
        + "BESIDE it, as bits.", () -> {
      WinterKeep w = three();
      // KEEP 0: HEAT 4, then 4 + 9. KEEP 1: HEAT 2 - 1, then 1 + 2 - 2.
      int[][] want = {{60, 0, 0, 0, -2, 2}, {60, 1, 9, 1, 1, 5}, {60, 20, 10, 0, -1, 2}};
      for (int k = 0; k < 3; k++) for (int i = 0; i < 6; i++) s.is("keep " + k + " " + i, w.keep(k, i), want[k][i]);
      w = Given.dale("dale 0 1" + ";keep 1 0".repeat(6) + ";field 0;field 0;field 0;field 0;beside 5 0;beside 4 5");
      for (int f = 0; f < 4; f++) w.carry(f, f);
      for (int k = 0; k < 6; k++) s.is("the FIELD of " + k, w.keep(k, 4), k < 4 ? k : -1);
      s.is("BESIDE the last", w.keep(5, 5), 17);
    });
    s.test(7, "-3 without these.", () -> {
      WinterKeep w = three();
      s.each("keep(#, 0)", n -> w.keep(n, 0), -3, 3, 4, 5, 6, -1, -2, LEAST, GREATEST);
      s.each("keep(#, 5)", n -> w.keep(n, 5), -3, 3, 6, -1);
      s.each("keep(0, #)", n -> w.keep(0, n), -3, 6, 7, -1, -2, LEAST, GREATEST);
      WinterKeep six = Given.dale("dale 0 1" + ";keep 1 0".repeat(6));
      s.each("keep(#, 0) of six", n -> six.keep(n, 0), 1, 0, 5);
      s.each("keep(#, 0) of six", n -> six.keep(n, 0), -3, 6, -1);
      s.each("keep(#, 0) of none", n -> Given.dale("dale 0 1").keep(n, 0), -3, 0, -1);
      s.each("keep(0, #) without a DALE", n -> new WinterKeep().keep(0, n), -3, 0, 1, 2, 3, 4, 5);
    });
    s.test(8, "0: the KEEP, 1: what they TELL.", () -> {
      WinterKeep w = Given.dale("dale 0 1" + ";keep 1 0".repeat(6)
          + ";person 5 0;person 0 9;person 5 1;person 1 2;person 2 3");
      int[] keeps = {5, 0, 5, 1, 2};
      int[] tells = {0, 9, 1, 2, 3};
      for (int p = 0; p < 5; p++) s.is("the KEEP of " + p, w.person(p, 0), keeps[p]);
      for (int p = 0; p < 5; p++) s.is("what " + p + " TELLS", w.person(p, 1), tells[p]);
    });
    s.test(8, "NONE without these.", () -> {
      WinterKeep w = three();
      s.each("person(#, 0)", n -> w.person(n, 0), -1, 4, 5, -1, LEAST, GREATEST);
      s.each("person(#, 1)", n -> w.person(n, 1), -1, 4, 5, -1, LEAST, GREATEST);
      s.each("person(0, #)", n -> w.person(0, n), -1, 2, 3, -1, LEAST, GREATEST);
      s.each("person(3, #)", n -> w.person(3, n) >= 0 ? 1 : 0, 1, 0, 1);
      s.each("person(0, #) without PEOPLE", n -> Given.dale("dale 0 1;keep 1 0").person(0, n), -1, 0, 1);
      s.each("person(0, #) without a DALE", n -> new WinterKeep().person(0, n), -1, 0, 1);
    });
    s.test(9, "0: CROWS, 1: the KEEP in it (NONE: there is none), 2: how much is KEPT OFF there now.", () -> {
      WinterKeep w = three();
      int[][] want = {{60, -1, 0}, {7, 1, 7}};
      for (int f = 0; f < 2; f++) for (int i = 0; i < 3; i++) s.is("field " + f + " " + i, w.field(f, i), want[f][i]);
      w.fetch(1);
      s.is("none is in it", w.field(1, 1) * 10 + w.field(1, 2), -10);
    });
    s.test(9, "-2 without these.", () -> {
      WinterKeep w = three();
      for (int what = 0; what < 3; what++) {
        int i = what;
        s.each("field(#, " + i + ")", n -> w.field(n, i), -2, 2, 3, 4, -1, -2, LEAST, GREATEST);
      }
      s.each("field(0, #)", n -> w.field(0, n), -2, 3, 4, -1, -2, LEAST, GREATEST);
      s.each("field(0, #) without FIELDS", n -> Given.dale("dale 0 1;keep 1 0").field(0, n), -2, 0, 1, 2);
      s.each("field(0, #) without a DALE", n -> new WinterKeep().field(0, n), -2, 0, 1, 2);
    });
    s.test(9, "its CROWS, as many as it is FULL at most.", () -> {
      for (int crows = 0; crows <= 10; crows++) {
        WinterKeep w = Given.dale("dale 0 99;keep 60 20;person 0 9;field " + crows);
        s.is("empty", w.carry(0, 0), 0);
        s.is("empty", w.field(0, 2), 0);
        w.undo();
        w.night();
        s.is("FULL 9, CROWS " + crows, w.carry(0, 0), Math.min(9, crows));
        s.is("FULL 9, CROWS " + crows, w.field(0, 2), Math.min(9, crows));
      }
    });
  }

  static void telling() {
    s.test(10, "PEOPLE by numbers, each by how all is then, whose KEEP is at HOME", () -> {
      WinterKeep w = Given.ruled("dale 0 99;keep 60 20;keep 60 20;person 0 4;person 0 5;person 1 6;field 0",
          "tell 1 if full=0");
      w.night();
      s.is("0 tells, then 1 does not", w.keep(0, 2), 4);
      w.undo();
      w.carry(1, 0);
      w.night();
      s.is("in a FIELD nobody tells it", w.keep(1, 2), 0);
      s.is("at HOME", w.keep(0, 2), 4);
      w = three();
      w.night();
      s.is("BURNT, nobody tells it", w.keep(0, 2), 0);
      s.is("in a FIELD", w.keep(1, 2), 9);
      s.is("at HOME", w.keep(2, 2), 15);
    });
    s.test(10, "if the SUM of the RULE IN FORCE's first CLAUSE without a TEST, or whose TEST holds (0 without), is "
        + "above 0, they tell it", () -> {
      String[] rules = {"tell 1", "tell 0", "tell 0-1", "tell 1 if 1=2", "tell 0;tell 1", "tell 1;tell 0",
        "tell 1 if 1=2;tell 1", "tell 0 if 1=1;tell 1", "tell 1 if 1=2;tell 0 if 1=2;tell 1 if 1=1;tell 0",
        "tell 32768*32768*32768*32768*8", "tell 32768*32768*32768*32768*8-1", "tell 1 if 1=2;".repeat(11) + "tell 1"};
      int[] tell = {1, 0, 0, 0, 0, 1, 1, 0, 1, 0, 1, 1};
      for (int i = 0; i < rules.length; i++) {
        WinterKeep w = Given.ruled("dale 0 99;keep 60 20;person 0 7", rules[i]);
        w.night();
        s.is("'" + rules[i] + "'", w.keep(0, 2), 7 * tell[i]);
      }
    });
    s.test(10, "it is as much more FULL as that one TELLS, its ROOM at most", () -> {
      WinterKeep w = Given.dale("dale 0 99;keep 20 20;keep 1 20;keep 9 20;keep 60 20;"
          + "person 0 7;person 1 9;person 2 9;person 3 0");
      int[][] full = {{7, 1, 9, 0}, {14, 1, 9, 0}, {20, 1, 9, 0}, {20, 1, 9, 0}};
      for (int n = 0; n < 4; n++) {
        w.night();
        for (int k = 0; k < 4; k++) s.is("NIGHT " + n + ", KEEP " + k, w.keep(k, 2), full[n][k]);
      }
    });
    s.test(10, "without a RULE they do", () -> {
      WinterKeep w = Given.ruled("dale 0 99;keep 60 20;person 0 7", "tell 0");
      w.night();
      s.is("by the RULE", w.keep(0, 2), 0);
      w.force(-1);
      w.night();
      s.is("without", w.keep(0, 2), 7);
    });
  }

  static void overhearing() {
    s.test(10, "Each KEEP at HOME overhears those at HOME that are BESIDE it and FULLER by more than LEAK, as all is "
        + "when (2) begins", () -> {
      for (int more = 0; more <= 9; more++) {
        WinterKeep w = Given.dale("dale 4 99;keep 60 20;keep 60 20;person 0 " + more + ";beside 0 1");
        w.night();
        s.is("FULLER by " + more, w.keep(1, 2), more > 4 ? 4 : 0);
        s.is("not less for it", w.keep(0, 2), more);
      }
      String row = "dale 2 99;keep 60 20;keep 60 20;keep 60 20;person 0 9;field 0;beside 0 1;beside 1 2";
      WinterKeep w = Given.dale(row);
      w.night();
      s.is("1 overhears 0", w.keep(1, 2), 2);
      s.is("2 not yet 1", w.keep(2, 2), 0);
      w.night();
      s.is("1 had 2, by no more than LEAK", w.keep(2, 2), 0);
      w.night();
      s.is("1 had 4", w.keep(2, 2), 2);
      w = Given.dale(row);
      w.carry(1, 0);
      w.night();
      s.is("one in a FIELD does not", w.keep(1, 2), 0);
      w = Given.dale(row);
      w.night();
      w.carry(0, 0);
      w.night();
      s.is("not one in a FIELD", w.keep(1, 2), 2);
      w = Given.dale(row);
      w.seat(0, 1);
      w.night();
      s.is("not one that is not BESIDE it", w.keep(1, 2), 0);
      w = Given.dale("dale 1 2;keep 60 0;keep 60 9;person 0 9;beside 0 1");
      s.is("BURNT behind (2)", w.night(), 1);
      s.is("it was overheard", w.keep(1, 2), 1);
      w.night();
      s.is("neither does one that is BURNT, nor is it overheard", w.count(8), 1);
    });
    s.test(10, "it is LEAK more FULL for each of them, its ROOM at most", () -> {
      String besides = ";person 1 9;person 2 9;person 3 9;person 4 9;person 5 9;"
          + "beside 0 1;beside 0 2;beside 3 0;beside 0 4;beside 5 0";
      int[] rooms = {60, 15, 14, 1};
      int[] full = {15, 15, 14, 1};
      for (int i = 0; i < 4; i++) {
        WinterKeep w = Given.dale("dale 3 99;keep " + rooms[i] + " 20" + ";keep 60 20".repeat(5) + besides);
        w.night();
        s.is("of five, ROOM " + rooms[i], w.keep(0, 2), full[i]);
      }
      WinterKeep w = Given.dale("dale 0 99;keep 60 20" + ";keep 60 20".repeat(5) + besides);
      w.night();
      s.is("LEAK 0", w.keep(0, 2), 0);
    });
  }

  static void heating() {
    s.test(10, "its HEAT is as much more as a quarter of how FULL it is, downwards", () -> {
      for (int full = 0; full <= 9; full++) {
        WinterKeep w = Given.ruled("dale 0 99;keep 60 0;person 0 " + full, "tell 1 if night=0");
        w.night();
        s.is("FULL " + full, w.keep(0, 3), full / 4);
        w.night();
        s.is("FULL " + full + " again", w.keep(0, 3), full / 4 * 2);
      }
    });
    s.test(10, "then as much less as it COOLS, twice that in a FIELD (0 at least)", () -> {
      for (int cools = 0; cools <= 5; cools++) {
        WinterKeep w = Given.ruled("dale 0 99;keep 60 " + cools + ";person 0 8;person 0 8;field 0", "tell 1 if night=0");
        w.night();
        s.is("4 less " + cools, w.keep(0, 3), Math.max(0, 4 - cools));
        w.carry(0, 0);
        w.night();
        s.is("4 less twice " + cools, w.keep(0, 3), Math.max(0, Math.max(0, 4 - cools) + 4 - 2 * cools));
      }
      WinterKeep w = Given.dale("dale 0 5;keep 60 3;person 0 9;person 0 9;person 0 9");
      w.night();
      s.is("6 more, then 3 less, is not HOT", w.keep(0, 3), 3);
    });
    s.test(10, "Is it HOT or more then, it is BURNT: empty, its HEAT 0, no more where it was.", () -> {
      for (int hot = 1; hot <= 4; hot++) {
        WinterKeep w = Given.dale("dale 0 " + hot + ";keep 60 0;person 0 9");
        boolean burns = hot <= 2;
        s.is("HEAT 2, HOT " + hot, w.night(), burns ? 1 : 0);
        s.is("FULL", w.keep(0, 2), burns ? 0 : 9);
        s.is("HEAT", w.keep(0, 3), burns ? 0 : 2);
        s.is("where", w.keep(0, 4), burns ? -2 : -1);
      }
      WinterKeep w = Given.dale("dale 0 99;keep 60 0;person 0 9;person 0 9");
      // FULL 18, 36, 54, 60, 60: HEAT 4, 13, 26, 41, 56, 71, 86, 101.
      Given.nights(w, 7);
      s.is("HEAT 86", w.keep(0, 3), 86);
      s.is("HEAT 101", w.night(), 1);
      w = Given.dale("dale 0 3;keep 60 0;keep 60 20;person 0 9;field 5;field 6");
      w.night();
      w.carry(0, 1);
      s.is("in a FIELD: HEAT 4", w.night(), 1);
      s.is("no more there", w.field(1, 1), -1);
      s.is("nothing is KEPT OFF", w.field(1, 2), 0);
      s.is("another can be", w.carry(1, 1), 0);
    });
    s.test(10, "A KEEP is at HOME, in a FIELD (one at most in each), or BURNT, for good.", () -> {
      WinterKeep w = three();
      s.is("BURNT", w.count(9), 1);
      s.is("at HOME", w.count(10), 4);
      Given.nights(w, 30);
      s.is("still BURNT", w.keep(0, 4), -2);
      s.is("empty", w.keep(0, 2) * 100 + w.keep(0, 3), 0);
      s.is("not BURNT anew", w.night(), 0);
      s.is("air", w.air(0), -1);
      s.is("carry", w.carry(0, 0), -1);
      s.is("fetch", w.fetch(0), -1);
      s.is("a second in a FIELD", w.carry(2, 1), -1);
      w = Given.dale("dale 0 1" + ";keep 4 0".repeat(6) + ";person 0 4;person 5 4;person 2 4");
      s.is("three at once", w.night(), 37);
      s.is("none again", w.night(), 0);
    });
  }

  static void nights() {
    s.test(10, "NIGHT is 1 more (999 at most by hand; NIGHTS that are asked go on beyond)", () -> {
      WinterKeep w = Given.ruled("dale 0 1;keep 60 20;person 0 1;keep 8 1;person 1 8",
          "tell 1 if night>1000;tell 1 if night=999 and person=1");
      for (int i = 0; i < 999; i++) {
        s.is("NIGHT", w.count(7), i);
        s.is("night", w.night(), 0);
      }
      s.nothingBy("night", w, n -> w.night(), -1, 1, 2);
      s.is("ahead", w.ahead(0, 50, 0), 48);
      s.is("ahead", w.ahead(0, 2, 0), 0);
      s.is("ahead", w.ahead(0, 3, 0), 1);
      s.is("burns", w.burns(0) * 10 + w.burns(1), 9991);
      s.is("image", w.image(0), 999);
      s.is("back", w.back(0), 999);
      s.is("night", w.night(), -1);
    });
    s.test(10, "KEEPS that are BURNT in it, as bits", () -> {
      WinterKeep w = Given.dale("dale 0 2" + ";keep 8 0".repeat(6) + ";person 0 8;person 5 4;person 3 8");
      s.is("0 and 3", w.night(), 9);
      s.is("5 alone", w.night(), 32);
      s.is("none", w.night(), 0);
      s.is("all", w.count(9), 41);
    });
    s.test(10, "NONE, and nothing happens, without a DALE, or in NIGHT 999.", () -> {
      WinterKeep none = new WinterKeep();
      s.nothingBy("night without a DALE", none, n -> none.night(), -1, 1, 2);
      s.is("nothing to undo", none.undo(), -1);
      WinterKeep w = Given.dale("dale 0 1;keep 60 20;person 0 1");
      Given.nights(w, 998);
      s.is("NIGHT 998", w.night(), 0);
      s.nothingBy("night in NIGHT 999", w, n -> w.night(), -1, 1, 2);
      s.is("undo", w.undo(), 19);
      s.is("NIGHT 998 again", w.night(), 0);
      s.is("NIGHT 999 again", w.night(), -1);
    });
  }

  static void airing() {
    s.test(11, "a KEEP at HOME that is not empty, or has HEAT, is half as FULL, and has half the HEAT, both "
        + "downwards", () -> {
      WinterKeep w = Given.ruled("dale 0 99;keep 60 0;person 0 7", "tell 1 if night=0");
      Given.nights(w, 13);
      s.is("FULL 7, HEAT 13", w.air(0), 3);
      s.is("HEAT", w.keep(0, 3), 6);
      s.is("FULL 3, HEAT 6", w.air(0), 1);
      s.is("HEAT", w.keep(0, 3), 3);
      s.is("FULL 1, HEAT 3", w.air(0), 0);
      s.is("HEAT", w.keep(0, 3), 1);
      s.is("empty, HEAT 1", w.air(0), 0);
      s.is("HEAT", w.keep(0, 3), 0);
      s.is("empty, no HEAT", w.air(0), -1);
      w = Given.dale("dale 0 99;keep 60 20;person 0 1");
      w.night();
      s.is("FULL 1, no HEAT", w.air(0), 0);
      s.is("empty", w.air(0), -1);
      w = Given.ruled("dale 0 99;keep 60 0;person 0 4", "tell 1 if night=0");
      Given.nights(w, 4);
      s.is("FULL 4, HEAT 4", w.air(0), 2);
      s.is("HEAT", w.keep(0, 3), 2);
    });
    s.test(11, "NONE, and nothing happens, without these.", () -> {
      WinterKeep w = three();
      s.nothingBy("air(#)", w, w::air, -1, 0, 1, 3, 5, 6, -1, -2, LEAST, GREATEST);
      WinterKeep fresh = Given.dale(THREE);
      s.nothingBy("air(#), all are empty", fresh, fresh::air, -1, 0, 1, 2, 3);
      WinterKeep none = new WinterKeep();
      s.nothingBy("air(#) without a DALE", none, none::air, -1, 0, -1);
    });
  }

  static void carrying() {
    s.test(12, "CARRY (a KEEP at HOME is in a FIELD without any)", () -> {
      WinterKeep w = Given.dale("dale 0 99;keep 60 20;keep 60 20;person 0 9;person 1 5;field 60;field 0;field 0;field 7");
      w.night();
      s.is("as FULL at most", w.carry(0, 0), 9);
      s.is("the FIELD", w.keep(0, 4), 0);
      s.is("CROWS 0", w.carry(1, 1), 0);
      s.is("at HOME", w.count(10), 0);
      w.fetch(0);
      w.fetch(1);
      s.is("CROWS at most", w.carry(0, 3), 7);
      s.is("the FIELD without any again", w.carry(1, 0), 5);
    });
    s.test(12, "NONE, and nothing happens, without these.", () -> {
      WinterKeep w = three();
      s.nothingBy("carry(#, 0)", w, n -> w.carry(n, 0), -1, 0, 1, 3, 5, 6, -1, -2, LEAST, GREATEST);
      s.nothingBy("carry(1, #), it is in one", w, n -> w.carry(1, n), -1, 0, 1);
      s.nothingBy("carry(2, #)", w, n -> w.carry(2, n), -1, 1, 2, 3, 4, -1, -2, LEAST, GREATEST);
      WinterKeep none = new WinterKeep();
      s.nothingBy("carry(0, #) without a DALE", none, n -> none.carry(0, n), -1, 0, -1);
      WinterKeep bare = Given.dale("dale 0 1;keep 1 0");
      s.nothingBy("carry(0, #) without FIELDS", bare, n -> bare.carry(0, n), -1, 0, -1, -2);
    });
    s.test(13, "FETCH (a KEEP in a FIELD is at HOME)", () -> {
      WinterKeep w = Given.dale("dale 0 1;keep 1 0;keep 1 0;field 0;field 0;field 0;field 0");
      for (int f = 0; f < 4; f++) {
        w.carry(1, f);
        s.is("the FIELD it was in", w.fetch(1), f);
        s.is("at HOME", w.keep(1, 4), -1);
        s.is("none in it", w.field(f, 1), -1);
      }
    });
    s.test(13, "NONE, and nothing happens, without it in one.", () -> {
      WinterKeep w = three();
      s.nothingBy("fetch(#)", w, w::fetch, -1, 0, 2, 3, 5, 6, -1, -2, LEAST, GREATEST);
      WinterKeep none = new WinterKeep();
      s.nothingBy("fetch(#) without a DALE", none, none::fetch, -1, 0, -1);
    });
  }

  static void seating() {
    s.test(14, "SEAT (two KEEPS are BESIDE one another, if they were not, and not, if they were)", () -> {
      WinterKeep w = Given.dale("dale 0 1" + ";keep 1 0".repeat(6) + ";beside 0 5");
      s.is("were", w.seat(0, 5), 0);
      s.is("not", w.keep(0, 5) + w.keep(5, 5), 0);
      s.is("were not", w.seat(5, 0), 1);
      s.is("are", w.keep(0, 5) * 100 + w.keep(5, 5), 3201);
      s.is("were not", w.seat(5, 4), 1);
      s.is("all three", w.keep(0, 5) * 10000 + w.keep(4, 5) * 100 + w.keep(5, 5), 323217);
      s.is("were", w.seat(4, 5), 0);
      s.is("the other stays", w.keep(5, 5), 1);
      w = three();
      s.is("one BURNT, one in a FIELD", w.seat(0, 1), 0);
      s.is("one BURNT, one at HOME", w.seat(2, 0), 1);
    });
    s.test(14, "1 if they are BESIDE one another then, else 0", () -> {
      WinterKeep w = Given.dale("dale 0 1" + ";keep 1 0".repeat(6));
      for (int i = 0; i < 6; i++) for (int j = 0; j < i; j++) s.is("seat " + i + " " + j, w.seat(i, j), 1);
      for (int i = 0; i < 6; i++) s.is("all others", w.keep(i, 5), 63 - (1 << i));
      for (int i = 0; i < 6; i++) for (int j = 0; j < i; j++) s.is("seat " + j + " " + i, w.seat(j, i), 0);
      for (int i = 0; i < 6; i++) s.is("none", w.keep(i, 5), 0);
    });
    s.test(14, "NONE, and nothing happens, without these (unlike).", () -> {
      WinterKeep w = three();
      s.nothingBy("seat(#, #)", w, n -> w.seat(n, n), -1, 0, 1, 2, 3, -1, LEAST, GREATEST);
      s.nothingBy("seat(0, #)", w, n -> w.seat(0, n), -1, 3, 5, 6, 32, 33, -1, -2, LEAST, GREATEST);
      s.nothingBy("seat(#, 0)", w, n -> w.seat(n, 0), -1, 3, 5, 6, 32, 33, -1, -2, LEAST, GREATEST);
      WinterKeep none = new WinterKeep();
      s.nothingBy("seat(0, #) without a DALE", none, n -> none.seat(0, n), -1, 0, 1);
    });
  }

  static void undoing() {
    s.test(15, "The last 20 can be UNDONE, the last first.", () -> {
      WinterKeep w = Given.dale("dale 0 99;keep 60 20;person 0 1");
      Given.nights(w, 19);
      s.is("19 ACTS", w.count(13), 19);
      w.night();
      s.is("20 ACTS", w.count(13), 20);
      Given.nights(w, 5);
      s.is("25 ACTS", w.count(13), 20);
      for (int i = 19; i >= 0; i--) {
        s.is("undo", w.undo(), i);
        s.is("NIGHT", w.count(7), 5 + i);
        s.is("FULL", w.keep(0, 2), 5 + i);
      }
      s.is("undo", w.undo(), -1);
      Given.nights(w, 3);
      w.undo();
      w.air(0);
      for (int i = 2; i >= 0; i--) s.is("undo", w.undo(), i);
      s.is("NIGHT", w.count(7) * 100 + w.keep(0, 2), 505);
    });
    s.test(15, "The last ACT is UNDONE: how many more can be", () -> {
      WinterKeep w = Given.dale(THREE);
      String[] states = new String[6];
      states[0] = Given.state(w);
      w.night();
      states[1] = Given.state(w);
      w.air(1);
      states[2] = Given.state(w);
      w.carry(1, 1);
      states[3] = Given.state(w);
      w.fetch(1);
      states[4] = Given.state(w);
      w.seat(0, 2);
      states[5] = Given.state(w);
      s.is("the NIGHT that burns", w.night(), 1);
      for (int i = 5; i >= 0; i--) {
        s.is("undo", w.undo(), i);
        s.is("as ahead of it", states[i].equals(Given.state(w)) ? 1 : 0, 1);
      }
    });
    s.test(15, "NONE, and nothing happens: none can.", () -> {
      WinterKeep none = new WinterKeep();
      s.nothingBy("undo without a DALE", none, n -> none.undo(), -1, 1, 2);
      WinterKeep w = Given.ruled(THREE, "tell 1");
      s.nothingBy("undo ahead of all ACTS", w, n -> w.undo(), -1, 1, 2);
      w.seed(5);
      w.note(0, 0, 0);
      w.force(-1);
      w.image(0);
      w.air(0);
      w.carry(0, 9);
      w.fetch(0);
      w.seat(1, 1);
      s.nothingBy("undo behind what is no ACT", w, n -> w.undo(), -1, 1, 2);
      w.night();
      s.is("undo", w.undo(), 0);
      s.nothingBy("undo behind the last", w, n -> w.undo(), -1, 1, 2);
    });
  }

  static void counting() {
    s.test(34, "0: LEAK, 1: HOT, 2: KEEPS, 3: PEOPLE, 4: FIELDS, 5: RULES, 6: the RULE IN FORCE (NONE), 7: NIGHT, 8: "
        + "how FULL all are, 9: KEEPS that are BURNT, as bits, 10: KEEPS at HOME, as bits, 11: what is KEPT OFF in "
        + "all FIELDS, 12: NOTES, 13: ACTS that can be UNDONE, 14: x, 15: bytes of the TAPE.", () -> {
      WinterKeep w = new WinterKeep();
      for (int i = 0; i < 16; i++) s.is("count " + i + " at first", w.count(i), i == 6 ? -1 : 0);
      w = Given.dale("dale 9 99" + ";keep 60 20".repeat(6) + ";person 0 9;person 1 9;person 2 9;person 3 9;person 4 9;"
          + "field 60;field 3;field 0;field 60", "tell 1", "tell 1", "tell 1", "tell 1", "tell 1", "tell 1");
      w.force(5);
      Given.nights(w, 21);
      for (int i = 0; i < 10; i++) w.note(60, 5, 60);
      for (int f = 0; f < 4; f++) w.carry(f, f);
      w.seed(GREATEST);
      for (int i = 0; i < 21; i++) w.feed(0, 0, 0, 0, 0);
      int[] most = {9, 99, 6, 5, 4, 6, 5, 21, 300, 0, 48, 123, 10, 20, GREATEST, 400};
      for (int i = 0; i < 16; i++) s.is("count " + i, w.count(i), most[i]);
      w = three();
      int[] some = {0, 9, 3, 4, 2, 0, -1, 2, 19, 1, 4, 7, 0, 3, 0, 0};
      for (int i = 0; i < 16; i++) s.is("count " + i, w.count(i), some[i]);
    });
    s.test(34, "NONE for others.", () -> {
      WinterKeep w = three();
      s.each("count(#)", w::count, -1, 16, 17, -1, -2, LEAST, GREATEST);
      s.each("count(#) without a DALE", new WinterKeep()::count, -1, 16, -1, LEAST, GREATEST);
    });
  }

  static void imaging() {
    s.test(35, "IMAGES 0 to 3: all but the TAPE and the RULES, as it is (the RULE IN FORCE, too)", () -> {
      WinterKeep w = Given.dale(THREE, "tell 1");
      for (int k = 0; k < 4; k++) {
        s.is("image " + k, w.image(k), k);
        w.night();
        w.seed(k + 1);
        w.note(k, 0, k);
        w.force(k % 2 - 1);
        w.seat(0, 2);
        w.carry(1, 1);
      }
      Bytes.dale(w, "dale 7 7;keep 7 7;field 7");
      for (int k = 3; k >= 0; k--) {
        s.is("back " + k, w.back(k), k);
        s.is("x", w.count(14), k);
        s.is("NOTES", w.count(12), k);
        s.is("the RULE IN FORCE", w.count(6), k == 2 ? 0 : -1);
        s.is("BESIDE", w.keep(0, 5), k % 2 == 0 ? 2 : 6);
        s.is("in FIELD 1", w.field(1, 1), k == 0 ? -1 : 1);
        s.is("LEAK and HOT", w.count(0) * 100 + w.count(1), 9);
        s.is("ROOM", w.keep(2, 0), 60);
      }
    });
    s.test(35, "An IMAGE is made: NIGHT", () -> {
      WinterKeep w = new WinterKeep();
      s.is("without a DALE", w.image(3), 0);
      Bytes.dale(w, THREE);
      w.night();
      s.is("in place of that one", w.image(3), 1);
      s.is("ACTS can still be UNDONE", w.undo(), 0);
      s.is("NIGHT", w.count(7), 0);
      s.is("back", w.back(3), 1);
    });
    s.test(35, "NONE without it.", () -> {
      WinterKeep w = three();
      s.nothingBy("image(#)", w, w::image, -1, 4, 5, -1, -2, LEAST, GREATEST);
      s.each("none was made: back(#)", w::back, -1, 0, 1, 2, 3, 4, -1);
    });
    s.test(36, "gone back to, it is as it was (these stay; nothing can be UNDONE then)", () -> {
      WinterKeep w = Given.ruled(THREE, "tell 1");
      w.night();
      w.note(1, 0, 18);
      w.seed(77);
      w.image(2);
      s.is("back", w.back(2), 1);
      s.is("undo", w.undo(), -1);
      String state = Given.state(w);
      Given.nights(w, 3);
      w.carry(2, 0);
      w.seat(0, 2);
      w.force(-1);
      w.note(-1, 0, 0);
      w.note(0, 1, 1);
      w.note(2, 2, 2);
      w.seed(78);
      s.is("back once more", w.back(2), 1);
      s.is("as it was", state.equals(Given.state(w)) ? 1 : 0, 1);
      s.is("its NOTE", w.ruled(0), 2);
      s.is("undo", w.undo(), -1);
      Bytes.rule(w, "tell 2");
      w.feed(1, 2, 3, 4, 5);
      w.force(1);
      s.is("back", w.back(2), 1);
      s.is("the TAPE stays", w.count(15), 20);
      s.is("RULES stay", w.count(5), 2);
      s.is("the RULE IN FORCE", w.count(6), 0);
    });
    s.test(36, "All is as in an IMAGE: NIGHT", () -> {
      WinterKeep w = new WinterKeep();
      w.image(0);
      Bytes.dale(w, THREE);
      Given.nights(w, 2);
      w.image(1);
      s.is("no DALE", w.back(0), 0);
      s.is("night", w.night(), -1);
      s.is("KEEPS", w.count(2), 0);
      s.is("BURNT", w.count(9), 0);
      s.is("the DALE again", w.back(1), 2);
      s.is("BURNT again", w.count(9), 1);
    });
    s.test(36, "NONE, and nothing happens, if it was never made, or without it.", () -> {
      WinterKeep w = three();
      s.nothingBy("back(#)", w, w::back, -1, 0, 1, 2, 3, 4, -1, LEAST, GREATEST);
      w.image(1);
      w.night();
      s.nothingBy("back(#)", w, w::back, -1, 0, 2, 3, 4, -1);
      s.is("undo", w.undo(), 3);
      s.is("back", w.back(1), 2);
    });
  }

  public static void main(String[] args) {
    looking();
    telling();
    overhearing();
    heating();
    nights();
    airing();
    carrying();
    seating();
    undoing();
    counting();
    imaging();
    s.end();
  }
}
