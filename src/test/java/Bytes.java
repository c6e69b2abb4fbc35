/** Texts as the numbers that feed takes. */
final class Bytes {
  private Bytes() { }

  /** The twenty bytes of a text from a place on, zeros behind its end. */
  static int[] twenty(String text, int from) {
    int[] five = new int[5];
    for (int i = 0; i < 20; i++) {
      int sign = from + i < text.length() ? text.charAt(from + i) & 255 : 0;
      five[i / 4] = five[i / 4] << 8 | sign;
    }
    return five;
  }

  /** Makes a text the whole TAPE (texts of up to 400 bytes). */
  static void tape(WinterKeep keep, String text) {
    keep.end(0);
    for (int i = 0; i < text.length(); i += 20) {
      int[] n = twenty(text, i);
      keep.feed(n[0], n[1], n[2], n[3], n[4]);
    }
    keep.end(text.length());
  }

  static int dale(WinterKeep keep, String text) {
    tape(keep, text);
    return keep.dale();
  }

  static int rule(WinterKeep keep, String text) {
    tape(keep, text);
    return keep.rule();
  }
}
