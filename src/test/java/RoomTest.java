import java.lang.management.ManagementFactory;

/** Calls make no objects: all rows are made with the object, and used again. */
public final class RoomTest {
  private static long made() {
    return ((com.sun.management.ThreadMXBean) ManagementFactory.getThreadMXBean()).getThreadAllocatedBytes(Thread.currentThread().getId());
  }

  public static void main(String[] args) {
    new MarbleWorks().count(0);
    made();
    long before = made();
    Works w = new Works();
    long object = made() - before;
    Works.due("an object of " + object + " bytes is small", object < 400_000, true);
    w.with("put counter 9 1 0;put counter 8 2 1;put counter 7 3 2;put counter 6 4 3;again 8 by 1 0(put gate 0 4 9;);lane 0 0;hopper 0 1 0 999;");
    w.it.shelf(0, false);
    w.with("put seesaw 0 12 0;");
    w.it.shelf(1, false);
    w.it.wish(12, 0, 1);
    calls(w.it);
    before = made();
    for (int i = 0; i < 30; i++) {
      calls(w.it);
    }
    long calls = made() - before;
    Works.due("30 times all calls made " + calls + " bytes", calls < 2_000, true);
    Works.end("RoomTest");
  }

  private static void calls(MarbleWorks x) {
    x.feed(0x70757420636f6720L, 0x3520353b00000000L, 0);
    x.draw();
    x.takeBack();
    x.feed(0x70757420636f6720L, 0x2035203500000000L, 0);
    x.draw();
    x.run(0, 3);
    x.round(0, 0);
    x.shelf(2, false);
    x.alike(0, 1);
    x.telling(2, 1, 0);
    x.way();
    x.step(0);
    x.sight(0, 0);
    x.suspect(0, 0);
    x.test(1);
    x.tries(0);
    for (int i = 0; i < 10; i++) {
      x.count(i);
    }
  }
}
