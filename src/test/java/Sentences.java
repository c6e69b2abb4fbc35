import java.io.IOException;
import java.nio.file.Files;
import java.nio.file.Path;
import java.util.HashSet;
import java.util.Set;

/** Tests of single sentences: each names its promise and quotes the document's own words. */
final class Sentences {
  interface Body { void run(); }
  interface Call { int of(int n); }

  private static final Path DOCUMENT = Path.of("../shared/DOC.md");

  private final Due due;
  private final int[] promises;
  private final String document = document();
  private final Set<String> names = new HashSet<>();
  private final Set<Integer> tested = new HashSet<>();
  private String now = "";

  /** For some promises, each of which must have a test by the end. */
  Sentences(String name, int... promises) {
    due = new Due(name);
    this.promises = promises;
  }

  void test(int promise, String sentence, Body body) {
    now = "promise " + promise + ", \"" + sentence + "\": ";
    tested.add(promise);
    due.is(now + "a test of its own", names.add(now) ? 1 : 0, 1);
    due.is(now + "words of the document", document.isEmpty() || isSaid(promise, sentence) ? 1 : 0, 1);
    body.run();
  }

  void is(String call, long got, long want) { due.is(now + call, got, want); }

  /** A call with each of some numbers in the place of its '#', all with one answer. */
  void each(String call, Call made, int want, int... numbers) {
    for (int n : numbers) is(call.replace("#", "" + n), made.of(n), want);
  }

  /** A call answers so, and nothing that can be seen changes by it. */
  void nothingBy(String call, WinterKeep w, Call made, int want, int... numbers) {
    String before = Given.state(w);
    each(call, made, want, numbers);
    is(call + ", and nothing happens", before.equals(Given.state(w)) ? 1 : 0, 1);
  }

  void daleFault(String marked, int kind) {
    is("dale of '" + marked + "'", Bytes.dale(new WinterKeep(), marked.replace("^", "")), fault(marked, kind));
  }

  void ruleFault(String marked, int kind) {
    is("rule of '" + marked + "'", Bytes.rule(new WinterKeep(), marked.replace("^", "")), fault(marked, kind));
  }

  void isDale(String text, int keeps) { is("dale of '" + text + "'", Bytes.dale(new WinterKeep(), text), keeps); }
  void isRule(String text) { is("rule of '" + text + "'", Bytes.rule(new WinterKeep(), text), 0); }

  void end() {
    for (int promise : promises) due.is("promise " + promise + " has tests", tested.contains(promise) ? 1 : 0, 1);
    due.end();
  }

  /** The answer to a FAULT at the first '^' of a text, which is left out of it. */
  private static int fault(String marked, int kind) { return FaultsTest.fault(marked.indexOf('^'), kind); }

  /** Below the promise's own heading, or ahead of all promises. */
  private boolean isSaid(int promise, String sentence) {
    int terms = document.indexOf("## Promise 1:");
    int from = document.indexOf("## Promise " + promise + ":");
    int to = document.indexOf("## ", from + 3);
    return document.substring(0, terms).contains(sentence) || document.substring(from, to).contains(sentence);
  }

  private static String document() {
    try {
      return Files.exists(DOCUMENT) ? Files.readString(DOCUMENT).replaceAll("\\s+", " ") : "";
    } catch (IOException e) {
      throw new IllegalStateException(e);
    }
  }
}
