import java.lang.management.ManagementFactory;

/**
 * The room that the dearest runs of 512 calls take: all that is made in a run counts, so what a
 * forecast uses has to be used again by the next one.
 */
public final class RoomTest {
  // Far below 600,000 objects and 7.3 million fields and elements of at least 4 bytes.
  private static final long MOST_BYTES = 1000000L;

  public static void main(String[] args) {
    Check.part("room");
    room("forecasts in a full mesh", 1, 9, 0);
    room("forecasts with short patience", 2, 9, 0);
    room("a mesh of ten that breaks again and again", 3, 5, 1);
    roomOfShortForecasts();
    roomOfLostMessages();
    Check.end("RoomTest");
  }

  private static long allocated() {
    com.sun.management.ThreadMXBean threads =
        (com.sun.management.ThreadMXBean) ManagementFactory.getThreadMXBean();
    return threads.getThreadAllocatedBytes(Thread.currentThread().getId());
  }

  /** Many messages are on the links whenever a forecast or the next call ends. */
  private static void roomOfShortForecasts() {
    long before = allocated();
    MeshRouting x = new MeshRouting(10);
    int calls = fullMesh(x, 1, 9);
    for (int packet = 0; packet < 90; packet++) {
      x.send(packet / 9, (packet / 9 + 1 + packet % 9) % 10);
      calls++;
    }
    x.keep();
    calls++;
    int most = 0;
    while (calls + 4 <= 512) {
      x.forecast(calls % 9, 9, 10 + calls % 3);
      x.damage(calls % 8, calls % 8 + 1, 10);
      x.run(calls % 25);
      most = Math.max(most, x.inFlight(0));
      x.restore();
      calls += 5;
    }
    judge("short forecasts with up to " + most + " requests on links",
        allocated() - before, MOST_BYTES);
  }

  /** Messages that are lost with their link are room for others too. */
  private static void roomOfLostMessages() {
    long before = allocated();
    MeshRouting x = new MeshRouting(10);
    int calls = fullMesh(x, 50, 9);
    for (int packet = 0; packet < 90; packet++) {
      x.send(packet / 9, (packet / 9 + 1 + packet % 9) % 10);
      calls++;
    }
    while (calls < 512) {
      x.damage(calls % 9, (calls + 1) % 9, 0);
      calls++;
    }
    judge("lost messages", allocated() - before, MOST_BYTES / 2);
  }

  private static void judge(String name, long used, long most) {
    System.out.println(name + ": " + used + " bytes");
    Check.due(name + " takes " + used + " bytes, which is little enough", used <= most, true);
  }

  /** Links 0 to 8 with one another; 9 stays alone, so that searches for it go on for long. */
  private static int fullMesh(MeshRouting x, int patience, int delay) {
    int[] values = {10, 2, 10, 15, 3, patience, 10};
    for (int k = 0; k < values.length; k++) {
      x.setParameter(k + 1, values[k]);
    }
    int calls = values.length;
    for (int a = 0; a < 9; a++) {
      for (int b = a + 1; b < 9; b++) {
        x.setLink(a, b, delay);
        calls++;
      }
    }
    return calls;
  }

  private static void room(String name, int patience, int delay, int breaks) {
    long before = allocated();
    MeshRouting x = new MeshRouting(10);
    int calls = fullMesh(x, patience, delay);
    for (int packet = 0; packet < 199; packet++) {
      x.send(packet % 9, packet % 5 == 0 ? (packet + 1) % 9 : 9);
      calls++;
      if (packet % 10 == 9) {
        x.run(packet % 40);
        calls++;
      }
    }
    x.keep();
    calls++;
    while (calls < 512) {
      if (calls % 10 < 8) {
        x.forecast(calls % 9, 9, 100000);
      } else if (calls % 10 == 8 && breaks > 0) {
        x.setLink(calls % 8, calls % 8 + 1, calls % 20 < 10 ? 0 : delay);
      } else {
        x.damage(calls % 8, calls % 8 + 1, 100000);
      }
      calls++;
    }
    judge(name, allocated() - before, MOST_BYTES);
  }
}
