import java.util.ArrayDeque;
import java.util.ArrayList;
import java.util.Arrays;
import java.util.HashMap;
import java.util.List;
import java.util.Map;

/** The document once more, written another way and without regard to cost, to compare answers with. */
final class PlainModel {
  static final class Fault extends RuntimeException {
    final int code;
    Fault(int place, int kind) { super(null, null, false, false); code = 1 + 8 * place + kind; }
  }

  record Token(char kind, String text, int place) { }

  interface Sum { long of(Person who); }
  interface Test { boolean of(Person who); }
  record Clause(Sum sum, Test test) { }
  record Note(int n, int keep, int much) { }
  record Crowd(int room, int cools) { }
  record Teller(int keep, int tells) { }

  static final class Text {
    int leak, hot;
    List<Crowd> keeps = new ArrayList<>();
    List<Teller> people = new ArrayList<>();
    List<Integer> fields = new ArrayList<>();
    boolean[][] beside = new boolean[6][6];
  }

  static final class Keep {
    int full, heat;
    int where = -1;
    Keep copy() { Keep k = new Keep(); k.full = full; k.heat = heat; k.where = where; return k; }
    boolean same(Keep o) { return full == o.full && heat == o.heat && where == o.where; }
  }

  static final class World {
    Text text;
    List<Keep> keeps = new ArrayList<>();
    boolean[][] beside = new boolean[6][6];
    int[] tells = new int[5];
    int night;

    static World begin(Text text) {
      World w = new World();
      w.text = text;
      if (text == null) return w;
      for (int i = 0; i < text.keeps.size(); i++) w.keeps.add(new Keep());
      for (int i = 0; i < 6; i++) w.beside[i] = text.beside[i].clone();
      for (int i = 0; i < text.people.size(); i++) w.tells[i] = text.people.get(i).tells();
      return w;
    }

    World copy() {
      World w = new World();
      w.text = text;
      for (Keep k : keeps) w.keeps.add(k.copy());
      for (int i = 0; i < 6; i++) w.beside[i] = beside[i].clone();
      w.tells = tells.clone();
      w.night = night;
      return w;
    }

    boolean home(int k) { return keeps.get(k).where == -1; }

    int night(List<Clause> rule) {
      for (int p = 0; p < text.people.size(); p++) {
        int k = text.people.get(p).keep();
        if (!home(k)) continue;
        if (rule != null) {
          long worth = 0;
          Person who = new Person(this, p);
          for (Clause c : rule) {
            if (c.test() == null || c.test().of(who)) { worth = c.sum().of(who); break; }
          }
          if (worth <= 0) continue;
        }
        Keep it = keeps.get(k);
        it.full = Math.min(text.keeps.get(k).room(), it.full + tells[p]);
      }
      List<Keep> old = copy().keeps;
      for (int k = 0; k < keeps.size(); k++) {
        if (!home(k)) continue;
        int louder = 0;
        for (int j = 0; j < keeps.size(); j++) {
          if (beside[k][j] && home(j) && old.get(j).full > old.get(k).full + text.leak) louder++;
        }
        keeps.get(k).full = Math.min(text.keeps.get(k).room(), old.get(k).full + louder * text.leak);
      }
      int bits = 0;
      for (int k = 0; k < keeps.size(); k++) {
        Keep it = keeps.get(k);
        it.heat += it.full / 4;
        it.heat -= text.keeps.get(k).cools() * (it.where >= 0 ? 2 : 1);
        if (it.heat < 0) it.heat = 0;
        if (it.heat >= text.hot) { it.full = 0; it.heat = 0; it.where = -2; bits += 1 << k; }
      }
      night++;
      return bits;
    }

    World after(int n, List<Clause> rule) {
      for (int i = 0; i < n; i++) night(rule);
      return this;
    }

    int fullAll() { int s = 0; for (Keep k : keeps) s += k.full; return s; }
    int burnt() { int s = 0; for (Keep k : keeps) if (k.where == -2) s++; return s; }
    int bits(int where) {
      int s = 0;
      for (int k = 0; k < keeps.size(); k++) if (keeps.get(k).where == where) s |= 1 << k;
      return s;
    }
    int inField(int f) {
      for (int k = 0; k < keeps.size(); k++) if (keeps.get(k).where == f) return k;
      return -1;
    }
  }

  record Person(World world, int number) {
    long word(String word) {
      int k = world.text.people.get(number).keep();
      Keep keep = world.keeps.get(k);
      Crowd made = world.text.keeps.get(k);
      int n = 0;
      switch (word) {
        case "person": return number;
        case "keep": return k;
        case "tells": return world.tells[number];
        case "full": return keep.full;
        case "room": return made.room();
        case "heat": return keep.heat;
        case "cools": return made.cools();
        case "night": return world.night;
        case "burnt": return world.burnt();
        case "beside":
          for (int j = 0; j < world.keeps.size(); j++) if (world.beside[k][j] && world.home(j)) n++;
          return n;
        default:
          for (int p = 0; p < world.text.people.size(); p++) {
            if (p != number && world.text.people.get(p).keep() == k) n++;
          }
          return n;
      }
    }
  }

  // ---- reading

  static final class Reader {
    final List<Token> tokens = new ArrayList<>();
    int at = 0;
    int counted = 0;

    Reader(String text) {
      int i = 0;
      while (i < text.length()) {
        char c = text.charAt(i);
        int j = i + 1;
        if (c == ' ') { i++; continue; }
        char kind = 's';
        if (c >= 'a' && c <= 'z') {
          while (j < text.length() && text.charAt(j) >= 'a' && text.charAt(j) <= 'z') j++;
          kind = 'w';
        } else if (c >= '0' && c <= '9') {
          while (j < text.length() && text.charAt(j) >= '0' && text.charAt(j) <= '9') j++;
          kind = 'n';
        } else if ((c == '<' || c == '>') && j < text.length() && text.charAt(j) == '=') {
          j++;
        }
        tokens.add(new Token(kind, text.substring(i, j), i));
        i = j;
      }
      tokens.add(new Token('e', "", text.length()));
    }

    Token peek() { return tokens.get(at); }
    Token next() { return tokens.get(at++); }
    boolean is(String text) { return peek().kind() != 'e' && peek().text().equals(text); }
    Fault wrong() { return new Fault(peek().place(), 0); }
    void must(String text) { if (!is(text)) throw wrong(); at++; }

    int number(int least, int most) {
      if (peek().kind() != 'n') throw wrong();
      Token t = next();
      if (t.text().length() > 5) throw new Fault(t.place(), 1);
      int n = Integer.parseInt(t.text());
      if (n < least || n > most) throw new Fault(t.place(), 1);
      return n;
    }

    Text dale() {
      Text d = new Text();
      int clauses = 0;
      do {
        Token t = peek();
        if (!List.of("dale", "keep", "person", "field", "beside").contains(t.text())) throw wrong();
        at++;
        Fault many = new Fault(t.place(), 4);
        if (++clauses > 40) throw many;
        if (t.text().equals("dale")) { if (clauses > 1) throw many; } else if (clauses == 1) throw many;
        int keeps = d.keeps.size();
        switch (t.text()) {
          case "dale": d.leak = number(0, 9); d.hot = number(1, 99); break;
          case "keep": {
            if (keeps == 6) throw many;
            int room = number(1, 60);
            d.keeps.add(new Crowd(room, number(0, 20)));
            break;
          }
          case "person": {
            if (d.people.size() == 5) throw many;
            int keep = number(0, keeps - 1);
            d.people.add(new Teller(keep, number(0, 9)));
            break;
          }
          case "field":
            if (d.fields.size() == 4) throw many;
            d.fields.add(number(0, 60));
            break;
          default: {
            int one = number(0, keeps - 1);
            int place = peek().place();
            int other = number(0, keeps - 1);
            if (one == other) throw new Fault(place, 1);
            d.beside[one][other] = true;
            d.beside[other][one] = true;
          }
        }
      } while (more());
      return d;
    }

    boolean more() {
      if (peek().kind() == 'e') return false;
      must(";");
      return true;
    }

    List<Clause> rule() {
      List<Clause> all = new ArrayList<>();
      do {
        Token t = peek();
        must("tell");
        if (all.size() == 12) throw new Fault(t.place(), 4);
        Sum sum = sum();
        Test test = null;
        if (is("if")) { at++; test = test(0); }
        all.add(new Clause(sum, test));
      } while (more());
      return all;
    }

    Test test(int depth) {
      Test left = part(depth);
      while (is("or")) {
        at++;
        Test a = left;
        Test b = part(depth);
        left = who -> a.of(who) || b.of(who);
      }
      return left;
    }

    Test part(int depth) {
      Test left = fact(depth);
      while (is("and")) {
        at++;
        Test a = left;
        Test b = fact(depth);
        left = who -> a.of(who) && b.of(who);
      }
      return left;
    }

    Test fact(int depth) {
      Token t = peek();
      if (is("not") || is("[")) {
        if (depth == 10) throw new Fault(t.place(), 2);
        at++;
        if (t.text().equals("not")) {
          Test inner = fact(depth + 1);
          return who -> !inner.of(who);
        }
        Test inner = test(depth + 1);
        must("]");
        return inner;
      }
      Sum a = sum();
      Token sign = peek();
      if (!List.of("<", "<=", "=", ">=", ">").contains(sign.text())) throw wrong();
      at++;
      count(sign.place());
      Sum b = sum();
      switch (sign.text()) {
        case "<": return who -> a.of(who) < b.of(who);
        case "<=": return who -> a.of(who) <= b.of(who);
        case "=": return who -> a.of(who) == b.of(who);
        case ">=": return who -> a.of(who) >= b.of(who);
        default: return who -> a.of(who) > b.of(who);
      }
    }

    void count(int place) { if (++counted > 60) throw new Fault(place, 3); }

    Sum sum() {
      Sum left = term();
      while (is("+") || is("-")) {
        boolean plus = next().text().equals("+");
        Sum a = left;
        Sum b = term();
        left = plus ? who -> a.of(who) + b.of(who) : who -> a.of(who) - b.of(who);
      }
      return left;
    }

    Sum term() {
      Sum left = value();
      while (is("*") || is("/") || is("%")) {
        String sign = next().text();
        Sum a = left;
        Sum b = value();
        left = who -> {
          long x = a.of(who);
          long y = b.of(who);
          if (sign.equals("*")) return x * y;
          if (y == 0) return 0;
          return sign.equals("/") ? x / y : x % y;
        };
      }
      return left;
    }

    Sum value() {
      Token t = peek();
      if (t.kind() == 'n') {
        int n = number(0, 99999);
        count(t.place());
        return who -> n;
      }
      List<String> words = List.of("person", "keep", "tells", "full", "room", "heat", "cools",
          "beside", "others", "burnt", "night");
      if (!words.contains(t.text())) throw wrong();
      at++;
      count(t.place());
      return who -> who.word(t.text());
    }
  }

  // ---- the object

  StringBuilder tape = new StringBuilder();
  List<List<Clause>> rules = new ArrayList<>();
  int force = -1;
  World now = World.begin(null);
  List<Note> notes = new ArrayList<>();
  ArrayDeque<World> acts = new ArrayDeque<>();
  long x = 0;

  record Image(World now, int force, List<Note> notes, long x) { }
  Image[] images = new Image[4];

  int keeps() { return now.keeps.size(); }
  int people() { return now.text == null ? 0 : now.text.people.size(); }
  int fields() { return now.text == null ? 0 : now.text.fields.size(); }
  boolean none() { return now.text == null; }
  boolean isKeep(int k) { return k >= 0 && k < keeps(); }
  boolean isPerson(int p) { return p >= 0 && p < people(); }
  boolean isField(int f) { return f >= 0 && f < fields(); }
  static boolean in(int n, int a, int b) { return a <= n && n <= b; }
  List<Clause> rule(int r) { return r == -1 ? null : rules.get(r); }
  World ask(int n) { return now.copy().after(n, rule(force)); }

  int feed(int... numbers) {
    if (tape.length() > 380) return -1;
    for (int n : numbers) for (int s = 3; s >= 0; s--) tape.append((char) ((n >>> (8 * s)) & 0xff));
    return tape.length();
  }

  int end(int n) {
    if (n < 0 || n > tape.length()) return -1;
    tape.setLength(n);
    return n;
  }

  int dale() {
    String text = tape.toString();
    tape.setLength(0);
    Text d;
    try { d = new Reader(text).dale(); } catch (Fault f) { return -2 - f.code; }
    now = World.begin(d);
    notes.clear();
    acts.clear();
    return keeps();
  }

  int rule() {
    if (rules.size() == 6) return -1;
    String text = tape.toString();
    tape.setLength(0);
    List<Clause> r;
    try { r = new Reader(text).rule(); } catch (Fault f) { return -2 - f.code; }
    rules.add(r);
    return rules.size() - 1;
  }

  int force(int r) {
    if (!in(r, -1, rules.size() - 1)) return -2;
    int was = force;
    force = r;
    return was;
  }

  int keep(int k, int what) {
    if (!isKeep(k) || !in(what, 0, 5)) return -3;
    int bits = 0;
    for (int j = 0; j < 6; j++) if (now.beside[k][j]) bits |= 1 << j;
    Keep it = now.keeps.get(k);
    Crowd made = now.text.keeps.get(k);
    return new int[] {made.room(), made.cools(), it.full, it.heat, it.where, bits}[what];
  }

  int person(int p, int what) {
    if (!isPerson(p) || !in(what, 0, 1)) return -1;
    Teller t = now.text.people.get(p);
    return what == 0 ? t.keep() : t.tells();
  }

  int kept(World w, int k, int f) { return Math.min(w.keeps.get(k).full, w.text.fields.get(f)); }

  int field(int f, int what) {
    if (!isField(f) || !in(what, 0, 2)) return -2;
    int k = now.inField(f);
    return what == 0 ? now.text.fields.get(f) : what == 1 ? k : k == -1 ? 0 : kept(now, k, f);
  }

  void act() {
    acts.addLast(now.copy());
    if (acts.size() > 20) acts.removeFirst();
  }

  int night() {
    if (none() || now.night == 999) return -1;
    act();
    return now.night(rule(force));
  }

  int air(int k) {
    if (!isKeep(k) || !now.home(k)) return -1;
    Keep it = now.keeps.get(k);
    if (it.full == 0 && it.heat == 0) return -1;
    act();
    it = now.keeps.get(k);
    it.heat /= 2;
    return it.full /= 2;
  }

  int carry(int k, int f) {
    if (!isKeep(k) || !now.home(k) || !isField(f) || now.inField(f) != -1) return -1;
    act();
    now.keeps.get(k).where = f;
    return kept(now, k, f);
  }

  int fetch(int k) {
    if (!isKeep(k) || now.keeps.get(k).where < 0) return -1;
    act();
    int was = now.keeps.get(k).where;
    now.keeps.get(k).where = -1;
    return was;
  }

  int seat(int a, int b) {
    if (!isKeep(a) || !isKeep(b) || a == b) return -1;
    act();
    boolean then = !now.beside[a][b];
    now.beside[a][b] = then;
    now.beside[b][a] = then;
    return then ? 1 : 0;
  }

  int undo() {
    if (acts.isEmpty()) return -1;
    now = acts.removeLast();
    return acts.size();
  }

  int ahead(int k, int n, int what) {
    if (none() || !in(n, 0, 100) || !in(what, 0, 2) || what < 2 && !isKeep(k)) return -1;
    World w = ask(n);
    return what == 2 ? w.bits(-2) : what == 0 ? w.keeps.get(k).full : w.keeps.get(k).heat;
  }

  int burns(int what) {
    if (none() || !in(what, 0, 1)) return -1;
    World w = now.copy();
    for (int i = 1; i <= 200; i++) {
      int before = w.bits(-2);
      w.night(rule(force));
      int fresh = w.bits(-2) & ~before;
      if (fresh != 0) {
        if (what == 0) return w.night - 1;
        for (int k = 0; ; k++) if ((fresh & 1 << k) != 0) return k;
      }
    }
    return -2;
  }

  int full(int k) {
    if (!isKeep(k)) return -1;
    World w = now.copy();
    for (int i = 0; i < 200; i++) {
      int number = w.night;
      w.night(rule(force));
      if (w.keeps.get(k).full == w.text.keeps.get(k).room()) return number;
    }
    return -2;
  }

  int[] best;
  int bestMuch, bestMany;

  void place(World w, int k, int[] goes) {
    if (k == w.keeps.size()) {
      int much = 0;
      int many = 0;
      for (int i = 0; i < k; i++) if (goes[i] >= 0) { many++; much += kept(w, i, goes[i]); }
      if (best == null || much > bestMuch || much == bestMuch && many < bestMany) {
        best = goes.clone();
        bestMuch = much;
        bestMany = many;
      }
      return;
    }
    goes[k] = -1;
    place(w, k + 1, goes);
    if (!w.home(k)) return;
    for (int f = 0; f < w.text.fields.size(); f++) {
      boolean taken = w.inField(f) != -1;
      for (int i = 0; i < k; i++) if (goes[i] == f) taken = true;
      if (taken) continue;
      goes[k] = f;
      place(w, k + 1, goes);
    }
    goes[k] = -1;
  }

  int place(World w) {
    best = null;
    place(w, 0, new int[6]);
    return bestMuch;
  }

  int placing(int what) {
    if (none() || !in(what, -1, 5)) return -3;
    if (what != -1 && !isKeep(what)) return -2;
    int much = place(now);
    return what == -1 ? much : best[what];
  }

  int spring(int n, int what) {
    if (none() || !in(n, 0, 60) || !in(what, 0, 1)) return -1;
    World w = now.copy();
    int[] much = new int[n + 1];
    for (int i = 0; i <= n; i++) { much[i] = place(w); w.night(rule(force)); }
    int most = Arrays.stream(much).max().getAsInt();
    for (int i = 0; ; i++) if (much[i] == most) return what == 0 ? i : most;
  }

  int apart(int what) {
    if (none() || !in(what, -1, 5)) return -3;
    if (what != -1 && !isKeep(what)) return -2;
    for (int many = 0; ; many++) {
      int ways = 1;
      for (int k = 0; k < keeps(); k++) ways *= many + 1;
      for (int way = 0; way < ways; way++) {
        int[] bench = new int[keeps()];
        int rest = way;
        for (int k = keeps() - 1; k >= 0; k--) { bench[k] = rest % (many + 1) - 1; rest /= many + 1; }
        boolean fits = true;
        for (int k = 0; k < keeps(); k++) {
          if ((bench[k] == -1) != (now.keeps.get(k).where == -2)) fits = false;
          for (int j = 0; j < k; j++) if (bench[k] >= 0 && bench[k] == bench[j] && now.beside[k][j]) fits = false;
        }
        if (fits) return what == -1 ? many : bench[what];
      }
    }
  }

  int clash(int what) {
    if (none() || !in(what, 0, 1)) return -1;
    int found = 0;
    for (int set = (1 << keeps()) - 1; set >= 0; set--) {
      boolean fits = true;
      for (int i = 0; i < keeps(); i++) {
        if ((set & 1 << i) == 0) continue;
        if (now.keeps.get(i).where == -2) fits = false;
        for (int j = 0; j < i; j++) if ((set & 1 << j) != 0 && !now.beside[i][j]) fits = false;
      }
      if (fits && Integer.bitCount(set) >= Integer.bitCount(found)) found = set;
    }
    return what == 0 ? Integer.bitCount(found) : found;
  }

  int silent(int n, int what) {
    if (none() || !in(n, 1, 40) || !in(what, 0, 2)) return -2;
    int[] least = null;
    for (int p = -1; p < people(); p++) {
      World w = now.copy();
      if (p >= 0) w.tells[p] = 0;
      w.after(n, rule(force));
      int[] row = {w.burnt(), -w.fullAll(), p};
      if (least == null || Arrays.compare(row, least) < 0) least = row;
    }
    return what == 0 ? least[2] : what == 1 ? least[0] : -least[1];
  }

  int most(int p, int n) {
    if (!isPerson(p) || !in(n, 1, 60)) return -1;
    int k = now.text.people.get(p).keep();
    if (now.keeps.get(k).where == -2) return -1;
    int most = -2;
    for (int t = 0; t <= 9; t++) {
      World w = now.copy();
      w.tells[p] = t;
      if (w.after(n, rule(force)).keeps.get(k).where != -2) most = t;
    }
    return most;
  }

  int had(int k, int n, int much, int what) {
    if (!isKeep(k) || now.keeps.get(k).where == -2) return -1;
    if (!in(n, 1, 40) || !in(much, 0, 60) || !in(what, 0, 1)) return -1;
    List<Integer> found = new ArrayList<>();
    for (int f = 0; f <= now.text.keeps.get(k).room(); f++) {
      World w = now.copy();
      w.keeps.get(k).full = f;
      Keep then = w.after(n, rule(force)).keeps.get(k);
      if (then.where != -2 && then.full == much) found.add(f);
    }
    return what == 0 ? found.size() : found.isEmpty() ? -2 : found.get(0);
  }

  int rests(int a, int b, int n, int what) {
    if (!isPerson(a) || !isPerson(b) || a == b || !in(n, 1, 20) || !in(what, 0, 2)) return -1;
    int[][][] has = new int[4][4][2];
    for (int i = 0; i < 4; i++) for (int j = 0; j < 4; j++) {
      World w = now.copy();
      w.tells[a] = 3 * i;
      w.tells[b] = 3 * j;
      w.after(n, rule(force));
      for (int s = 0; s < 2; s++) {
        Keep k = w.keeps.get(w.text.people.get(s == 0 ? a : b).keep());
        has[i][j][s] = k.full - (k.where == -2 ? 20 : 0);
      }
    }
    List<int[]> found = new ArrayList<>();
    for (int i = 0; i < 4; i++) for (int j = 0; j < 4; j++) {
      boolean rest = true;
      for (int o = 0; o < 4; o++) {
        if (has[o][j][0] > has[i][j][0]) rest = false;
        if (has[i][o][1] > has[i][j][1]) rest = false;
      }
      if (rest) found.add(new int[] {3 * i, 3 * j});
    }
    return what == 0 ? found.size() : found.isEmpty() ? -2 : found.get(0)[what - 1];
  }

  int ring(int what) {
    if (none() || !in(what, 0, 1)) return -1;
    List<World> all = new ArrayList<>();
    World w = now.copy();
    for (int i = 0; i <= 60; i++) { all.add(w.copy()); w.night(rule(force)); }
    for (int i = 0; i < 60; i++) for (int j = i + 1; j <= 60; j++) {
      boolean same = true;
      for (int k = 0; k < keeps(); k++) same &= all.get(i).keeps.get(k).same(all.get(j).keeps.get(k));
      if (same) return what == 0 ? now.night + i : j - i;
    }
    return -2;
  }

  int pence(int much, int keep) {
    if (!isKeep(keep) || !in(much, 0, 9999)) return -1;
    int all = now.fullAll();
    if (all == 0) return 0;
    int[] has = new int[keeps()];
    List<Integer> order = new ArrayList<>();
    int left = much;
    for (int k = 0; k < keeps(); k++) {
      has[k] = much * now.keeps.get(k).full / all;
      left -= has[k];
      order.add(k);
    }
    order.sort((a, b) -> (much * now.keeps.get(b).full) % all - (much * now.keeps.get(a).full) % all);
    for (int i = 0; i < left; i++) has[order.get(i)]++;
    return has[keep];
  }

  int note(int n, int k, int much) {
    if (n == -1) { notes.clear(); return 0; }
    if (!in(n, 0, 60) || !isKeep(k) || !in(much, 0, 60) || notes.size() == 10) return -2;
    notes.add(new Note(n, k, much));
    return notes.size();
  }

  List<Integer> ruling() {
    List<Integer> found = new ArrayList<>();
    for (int r = -1; r < rules.size(); r++) {
      boolean fits = true;
      for (Note n : notes) {
        World w = World.begin(now.text).after(n.n(), rule(r));
        if (w.keeps.get(n.keep()).full != n.much()) fits = false;
      }
      if (fits) found.add(r);
    }
    return found;
  }

  int ruled(int what) {
    if (none() || !in(what, 0, 1)) return -3;
    List<Integer> found = ruling();
    return what == 0 ? found.size() : found.isEmpty() ? -2 : found.get(0);
  }

  int look(int n, int what) {
    if (none() || !in(n, 0, 60) || !in(what, 0, 1)) return -1;
    List<Integer> found = ruling();
    if (found.isEmpty() || keeps() == 0) return -2;
    int[] least = null;
    for (int k = 0; k < keeps(); k++) {
      Map<Integer, Integer> alike = new HashMap<>();
      for (int r : found) alike.merge(World.begin(now.text).after(n, rule(r)).keeps.get(k).full, 1, Integer::sum);
      int[] row = {alike.values().stream().max(Integer::compare).get(), k};
      if (least == null || Arrays.compare(row, least) < 0) least = row;
    }
    return what == 0 ? least[1] : least[0];
  }

  int seed(int n) {
    if (n < 0) return -1;
    int was = (int) x;
    x = n;
    return was;
  }

  int frosts(int m, int n, int p, int what) {
    if (none() || !in(m, 1, 10) || !in(n, 1, 60) || !in(p, 0, 100) || !in(what, 0, 1)) return -1;
    long[] draws = {x};
    int sum = 0;
    for (int i = 0; i < m; i++) {
      World w = now.copy();
      for (int j = 0; j < n; j++) {
        if (draw(draws) % 100 < p && keeps() > 0) w.keeps.get(draw(draws) % keeps()).heat = 0;
        w.night(rule(force));
      }
      sum += what == 0 ? w.burnt() : w.fullAll();
    }
    return sum;
  }

  static int draw(long[] x) {
    x[0] = (x[0] * 1103515245L + 12345L) % 2147483648L;
    return (int) (x[0] / 65536);
  }

  int count(int what) {
    int kept = 0;
    for (int f = 0; f < fields(); f++) kept += field(f, 2);
    switch (what) {
      case 0: return none() ? 0 : now.text.leak;
      case 1: return none() ? 0 : now.text.hot;
      case 2: return keeps();
      case 3: return people();
      case 4: return fields();
      case 5: return rules.size();
      case 6: return force;
      case 7: return now.night;
      case 8: return now.fullAll();
      case 9: return now.bits(-2);
      case 10: return now.bits(-1);
      case 11: return kept;
      case 12: return notes.size();
      case 13: return acts.size();
      case 14: return (int) x;
      case 15: return tape.length();
      default: return -1;
    }
  }

  int image(int k) {
    if (!in(k, 0, 3)) return -1;
    images[k] = new Image(now.copy(), force, new ArrayList<>(notes), x);
    return now.night;
  }

  int back(int k) {
    if (!in(k, 0, 3) || images[k] == null) return -1;
    now = images[k].now().copy();
    force = images[k].force();
    notes = new ArrayList<>(images[k].notes());
    x = images[k].x();
    acts.clear();
    return now.night;
  }
}
