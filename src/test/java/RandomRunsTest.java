import java.util.Random;

/** Runs of drawn calls, of WinterKeep and of PlainModel, whose answers must be the same. */
public final class RandomRunsTest {
  static final String[] WORDS = {"person", "keep", "tells", "full", "room", "heat", "cools", "beside",
    "others", "burnt", "night"};
  static final String[] ALL = {"dale", "keep", "person", "field", "beside", "tell", "if", "or", "and", "not",
    "[", "]", "<", "<=", "=", ">=", ">", "+", "-", "*", "/", "%", ";", " ", "  ", "0", "1", "5", "61", "99999",
    "123456", "full", "heat", "x", "\0", "\u00ff", "A", "tells", "night"};

  final Random random;
  final WinterKeep real = new WinterKeep();
  final PlainModel plain = new PlainModel();
  final StringBuilder log = new StringBuilder();
  int calls = 0;

  RandomRunsTest(long seed) { random = new Random(seed); }

  int upTo(int n) { return random.nextInt(n + 1); }
  boolean one(int of) { return random.nextInt(of) == 0; }
  String gap() { return one(6) ? "  " : " "; }
  String maybe() { return one(3) ? " " : ""; }

  /** Few KEEPS that burn soon and overhear one another, each with people of its own. */
  String closeDale() {
    int keeps = 2 + upTo(1);
    StringBuilder b = new StringBuilder("dale ").append(1 + upTo(8)).append(' ').append(1 + upTo(7));
    for (int i = 0; i < keeps; i++) b.append(";keep ").append(5 + upTo(30)).append(' ').append(upTo(3));
    for (int i = 0; i < 3; i++) b.append(";person ").append(i % keeps).append(' ').append(upTo(9));
    for (int i = 1; i < keeps; i++) b.append(";beside ").append(i - 1).append(' ').append(i);
    return b.append(";field ").append(upTo(20)).toString();
  }

  String daleText() {
    if (one(4)) return closeDale();
    StringBuilder b = new StringBuilder();
    b.append("dale ").append(upTo(one(3) ? 9 : 3)).append(gap()).append(1 + upTo(one(2) ? 98 : 20));
    int keeps = upTo(5) + (one(15) ? 0 : 1);
    int people = upTo(5);
    int fields = upTo(4);
    int besides = upTo(9);
    for (int i = 0; i < keeps; i++) {
      b.append(';').append(maybe()).append("keep ").append(1 + upTo(59)).append(gap()).append(upTo(one(3) ? 20 : 6));
    }
    for (int i = 0; i < people && keeps > 0; i++) {
      b.append(';').append("person ").append(upTo(keeps - 1)).append(' ').append(upTo(9)).append(maybe());
    }
    for (int i = 0; i < fields; i++) b.append(";field ").append(upTo(one(2) ? 60 : 12));
    for (int i = 0; i < besides && keeps > 1; i++) {
      int a = upTo(keeps - 1);
      int c = (a + 1 + upTo(keeps - 2)) % keeps;
      b.append(";beside ").append(a).append(' ').append(c);
    }
    while (one(8) && b.length() < 380) b.append(one(2) ? ";field 0" : ";keep 3 0");
    return b.toString();
  }

  String value() { return one(3) ? "" + upTo(one(4) ? 99999 : 20) : WORDS[upTo(10)]; }

  String sum() {
    StringBuilder b = new StringBuilder(value());
    while (one(2)) b.append(maybe()).append("+-*/%".charAt(upTo(4))).append(maybe()).append(value());
    return b.toString();
  }

  String fact(int depth) {
    if (depth < 4 && one(4)) return "not " + fact(depth + 1);
    if (depth < 4 && one(4)) return "[" + maybe() + test(depth + 1) + "]";
    String[] signs = {"<", "<=", "=", ">=", ">"};
    return sum() + maybe() + signs[upTo(4)] + maybe() + sum();
  }

  String test(int depth) {
    StringBuilder b = new StringBuilder(fact(depth));
    while (one(3)) b.append(one(2) ? " or " : " and ").append(fact(depth));
    return b.toString();
  }

  String ruleText() {
    StringBuilder b = new StringBuilder();
    int clauses = 1 + upTo(one(8) ? 12 : 2);
    for (int i = 0; i < clauses; i++) {
      if (i > 0) b.append(';').append(maybe());
      b.append("tell ").append(sum());
      if (!one(4)) b.append(" if ").append(test(0));
    }
    return b.toString();
  }

  String wild() {
    StringBuilder b = new StringBuilder();
    int many = upTo(12);
    for (int i = 0; i < many; i++) b.append(ALL[upTo(ALL.length - 1)]).append(maybe());
    return b.toString();
  }

  String spoiled(String text) {
    StringBuilder b = new StringBuilder(text);
    int many = 1 + upTo(1);
    for (int i = 0; i < many && b.length() > 0; i++) {
      int at = upTo(b.length() - 1);
      if (one(3)) b.deleteCharAt(at);
      else if (one(2)) b.insert(at, ALL[upTo(ALL.length - 1)]);
      else b.setCharAt(at, ALL[upTo(ALL.length - 1)].charAt(0));
    }
    return b.toString();
  }

  void due(String call, int got, int want) {
    calls++;
    log.append(call).append(" -> ").append(got).append('\n');
    if (got != want) {
      System.out.println(log);
      System.out.println(call + " answered " + got + ", due is " + want);
      System.exit(1);
    }
  }

  void tape(String text) {
    if (one(2)) due("end(0)", real.end(0), plain.end(0));
    for (int i = 0; i < text.length(); i += 20) {
      int[] n = Bytes.twenty(text, i);
      due("feed " + text.substring(i, Math.min(text.length(), i + 20)),
          real.feed(n[0], n[1], n[2], n[3], n[4]), plain.feed(n));
    }
    int length = Math.min(text.length(), real.count(15));
    due("end(" + length + ")", real.end(length), plain.end(length));
  }

  void tellDale() {
    String text = daleText();
    tape(one(3) ? spoiled(text) : one(10) ? wild() : text);
    due("dale", real.dale(), plain.dale());
  }

  void tellRule() {
    String text = one(6) ? "tell 1 if full<8 or full>tells" : ruleText();
    tape(one(3) ? spoiled(text) : one(10) ? wild() : text);
    due("rule", real.rule(), plain.rule());
  }

  int k() { return one(12) ? upTo(8) - 2 : upTo(Math.max(0, real.count(2) - 1)); }
  int p() { return one(12) ? upTo(8) - 2 : upTo(Math.max(0, real.count(3) - 1)); }
  int f() { return one(12) ? upTo(7) - 2 : upTo(Math.max(0, real.count(4) - 1)); }
  int w(int most) { return one(12) ? upTo(most + 3) - 2 : upTo(most); }
  int n(int most) { return one(12) ? (one(2) ? most + 1 : upTo(2) - 2) : one(4) ? most : upTo(most); }

  void act() {
    int a, b;
    switch (upTo(13)) {
      case 0: a = k(); due("air " + a, real.air(a), plain.air(a)); break;
      case 1: case 2: a = k(); b = f(); due("carry " + a + " " + b, real.carry(a, b), plain.carry(a, b)); break;
      case 3: a = k(); due("fetch " + a, real.fetch(a), plain.fetch(a)); break;
      case 4: a = k(); b = k(); due("seat " + a + " " + b, real.seat(a, b), plain.seat(a, b)); break;
      case 5: due("undo", real.undo(), plain.undo()); break;
      case 6: a = upTo(8) - 2; due("force " + a, real.force(a), plain.force(a)); break;
      case 7: a = one(9) ? -1 - upTo(3) : random.nextInt() & 0x7fffffff; due("seed " + a, real.seed(a), plain.seed(a)); break;
      case 8: a = upTo(5) - 1; due("image " + a, real.image(a), plain.image(a)); break;
      case 9: if (one(3)) { a = upTo(5) - 1; due("back " + a, real.back(a), plain.back(a)); } break;
      case 10: tellNote(); break;
      default: due("night", real.night(), plain.night());
    }
  }

  void tellNote() {
    int n = one(8) ? -1 : one(10) ? upTo(64) - 2 : upTo(6);
    int k = k();
    int much = one(3) ? upTo(64) - 2 : plain.now.text == null || !plain.isKeep(k) || n < 0 ? 3
        : PlainModel.World.begin(plain.now.text).after(n, plain.rule(upTo(plain.rules.size()) - 1)).keeps.get(k).full;
    due("note " + n + " " + k + " " + much, real.note(n, k, much), plain.note(n, k, much));
  }

  void ask() {
    int a = 0, b, c, d;
    switch (upTo(20)) {
      case 0: a = k(); b = n(100); c = w(2); due("ahead " + a + " " + b + " " + c, real.ahead(a, b, c), plain.ahead(a, b, c)); break;
      case 1: a = w(1); due("burns " + a, real.burns(a), plain.burns(a)); break;
      case 2: a = k(); due("full " + a, real.full(a), plain.full(a)); break;
      case 3: a = w(6) - 1; due("placing " + a, real.placing(a), plain.placing(a)); break;
      case 4: a = n(60); b = w(1); due("spring " + a + " " + b, real.spring(a, b), plain.spring(a, b)); break;
      case 5: a = w(6) - 1; due("apart " + a, real.apart(a), plain.apart(a)); break;
      case 6: a = w(1); due("clash " + a, real.clash(a), plain.clash(a)); break;
      case 7: a = n(40); b = w(2); due("silent " + a + " " + b, real.silent(a, b), plain.silent(a, b)); break;
      case 8: a = p(); b = n(60); due("most " + a + " " + b, real.most(a, b), plain.most(a, b)); break;
      case 9: case 10: {
        a = k(); b = n(40); d = w(1);
        c = one(3) || !plain.isKeep(a) ? n(60) : plain.ask(Math.max(0, b)).keeps.get(a).full;
        due("had " + a + " " + b + " " + c + " " + d, real.had(a, b, c, d), plain.had(a, b, c, d));
        break;
      }
      case 11: case 12: a = p(); b = p(); c = n(20); d = w(2); due("rests " + a + " " + b + " " + c + " " + d, real.rests(a, b, c, d), plain.rests(a, b, c, d)); break;
      case 13: a = w(1); due("ring " + a, real.ring(a), plain.ring(a)); break;
      case 14: a = one(3) ? upTo(20) : n(9999); b = k(); due("pence " + a + " " + b, real.pence(a, b), plain.pence(a, b)); break;
      case 15: a = w(1); due("ruled " + a, real.ruled(a), plain.ruled(a)); break;
      case 16: a = n(60); b = w(1); due("look " + a + " " + b, real.look(a, b), plain.look(a, b)); break;
      case 17: case 18: a = n(10); b = n(60); c = n(100); d = w(1); due("frosts " + a + " " + b + " " + c + " " + d, real.frosts(a, b, c, d), plain.frosts(a, b, c, d)); break;
      case 19: a = p(); b = w(1); due("person " + a + " " + b, real.person(a, b), plain.person(a, b)); break;
      default: a = f(); b = w(2); due("field " + a + " " + b, real.field(a, b), plain.field(a, b));
    }
  }

  void compareAll() {
    for (int i = -1; i <= 16; i++) due("count " + i, real.count(i), plain.count(i));
    for (int i = -1; i <= 6; i++) {
      for (int j = -1; j <= 6; j++) due("keep " + i + " " + j, real.keep(i, j), plain.keep(i, j));
      for (int j = -1; j <= 2; j++) due("person " + i + " " + j, real.person(i, j), plain.person(i, j));
      for (int j = -1; j <= 3; j++) due("field " + i + " " + j, real.field(i, j), plain.field(i, j));
    }
  }

  void go() {
    int before = upTo(3);
    for (int i = 0; i < before; i++) ask();
    for (int i = upTo(6); i > 0; i--) tellRule();
    if (!one(10)) tellDale();
    for (int i = 0; i < 70; i++) {
      if (one(25)) tellDale();
      else if (one(25)) tellRule();
      else if (one(2)) act();
      else ask();
      if (one(12)) compareAll();
    }
    compareAll();
  }

  public static void main(String[] args) {
    int runs = args.length > 0 ? Integer.parseInt(args[0]) : 1500;
    int from = args.length > 1 ? Integer.parseInt(args[1]) : 1;
    long calls = 0;
    for (int i = 0; i < runs; i++) {
      RandomRunsTest run = new RandomRunsTest(from + i);
      run.go();
      calls += run.calls;
    }
    System.out.println("RandomRunsTest: " + calls + " answers are the same");
  }
}
