import java.lang.management.ManagementFactory;

/**
 * The room that the dearest runs of 512 calls take: all that is made in a run counts, so what a
 * forecast uses has to be used again by the next one.
 */
public final class RoomTest {
  // 7.3 million fields and elements of at least 4 bytes, 600,000 objects.
  private static final long MOST_BYTES = 7300000L * 4;

  public static void main(String[] args) {
    Check.part("room");
    room("forecasts in a full mesh", 1, 9, 0);
    room("forecasts with short patience", 2, 9, 0);
    room("a mesh of ten that breaks again and again", 3, 5, 1);
    Check.end("RoomTest");
  }

  private static long allocated() {
    com.sun.management.ThreadMXBean threads =
        (com.sun.management.ThreadMXBean) ManagementFactory.getThreadMXBean();
    return threads.getThreadAllocatedBytes(Thread.currentThread().getId());
  }

  private static void room(String name, int patience, int delay, int breaks) {
    long before = allocated();
    MeshRouting x = new MeshRouting(10);
    int calls = 0;
    x.setParameter(1, 10);
    x.setParameter(3, 10);
    x.setParameter(4, 15);
    x.setParameter(5, 3);
    x.setParameter(6, patience);
    x.setParameter(7, 10);
    calls += 6;
    // The last node stays alone, so that searches for it go on for long.
    for (int a = 0; a < 9; a++) {
      for (int b = a + 1; b < 9; b++) {
        x.setLink(a, b, delay);
        calls++;
      }
    }
    for (int packet = 0; packet < 199; packet++) {
      x.send(packet % 9, packet % 5 == 0 ? (packet + 1) % 9 : 9);
      calls++;
      if (packet % 10 == 9) {
        x.run(packet % 40);
        calls++;
      }
    }
    x.keep();
    calls++;
    while (calls < 512) {
      if (calls % 10 < 8) {
        x.forecast(calls % 9, 9, 100000);
      } else if (calls % 10 == 8 && breaks > 0) {
        x.setLink(calls % 8, calls % 8 + 1, calls % 20 < 10 ? 0 : delay);
      } else {
        x.damage(calls % 8, calls % 8 + 1, 100000);
      }
      calls++;
    }
    long used = allocated() - before;
    System.out.println(name + ": " + used + " bytes, " + x.sent(0) + " requests");
    Check.due(name + " takes " + used + " bytes, which is little enough", used <= MOST_BYTES, true);
  }
}
