import java.lang.management.ManagementFactory;

/** What an object and its 512 calls make stays small, whichever call it is. */
public final class RoomTest {
  interface Call { int of(WinterKeep keep, int i); }

  static final int MOST = 400_000;
  static final Due due = new Due("RoomTest");
  static final String DALE = "dale 3 90;keep 60 0;keep 60 1;keep 60 2;keep 60 3;keep 60 4;keep 60 5;person 0 1;"
      + "person 1 2;person 2 3;person 3 4;person 4 5;field 9;field 20;field 30;field 40;beside 0 1;beside 1 2";
  static final String RULE = "tell full+heat*2-night/3 if not [full>room-1 and heat>=9] or others=0;tell beside-burnt";

  static long made() {
    return ((com.sun.management.ThreadMXBean) ManagementFactory.getThreadMXBean())
        .getThreadAllocatedBytes(Thread.currentThread().getId());
  }

  static void room(String name, Call call) {
    long before = made();
    WinterKeep w = new WinterKeep();
    for (int i = 0; i < 6; i++) Bytes.rule(w, RULE);
    Bytes.dale(w, DALE);
    w.force(0);
    for (int i = 0; i < 512; i++) call.of(w, i);
    long bytes = made() - before;
    due.is(name + " within the room (made " + bytes + ")", bytes <= MOST ? 1 : 0, 1);
  }

  public static void main(String[] args) {
    room("warm up", (w, i) -> w.count(i));
    room("dale", (w, i) -> Bytes.dale(w, DALE));
    room("night", (w, i) -> w.night());
    room("air", (w, i) -> i % 2 == 0 ? w.night() : w.air(0));
    room("carry", (w, i) -> i % 2 == 0 ? w.carry(0, 1) : w.fetch(0));
    room("seat", (w, i) -> i % 2 == 0 ? w.seat(0, 1) : w.undo());
    room("ahead", (w, i) -> w.ahead(0, 100, 0));
    room("burns", (w, i) -> w.burns(0));
    room("full", (w, i) -> w.full(5));
    room("placing", (w, i) -> w.placing(i % 7 - 1));
    room("spring", (w, i) -> w.spring(60, 0));
    room("apart", (w, i) -> w.apart(i % 7 - 1));
    room("clash", (w, i) -> w.clash(1));
    room("silent", (w, i) -> w.silent(40, 0));
    room("most", (w, i) -> w.most(0, 60));
    room("had", (w, i) -> i < 100 ? w.had(0, 40, i % 60, 0) : 0);
    room("rests", (w, i) -> w.rests(0, 1, 20, 0));
    room("ring", (w, i) -> w.ring(0));
    room("pence", (w, i) -> w.pence(9999, 0));
    room("ruled", (w, i) -> i < 10 ? w.note(60, i % 6, 60) : w.ruled(0));
    room("look", (w, i) -> w.look(60, 0));
    room("frosts", (w, i) -> w.frosts(10, 60, 50, 0));
    room("image", (w, i) -> i % 2 == 0 ? w.image(i % 4) : w.back(0));
    due.end();
  }
}
