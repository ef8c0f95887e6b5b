/** Promises 27 to 35: routes that are followed, what would happen, checkpoints, fingerprints. */
public final class AnalysisTest {
  private static final int LEAST = Integer.MIN_VALUE;
  private static final int MOST = Integer.MAX_VALUE;

  public static void main(String[] args) {
    follow();
    loops();
    distance();
    totalHops();
    forecast();
    forecastOfFullObject();
    forecastChangesNothing();
    damage();
    damageOfLinkThatIsDown();
    damageKnowsThePackets();
    damageChangesNothing();
    keepAndRestore();
    restoreMakesEverythingAsItWas();
    fingerprintOfNewObject();
    fingerprintOfNumbers();
    Check.end("AnalysisTest");
  }

  private static void follow() {
    Check.part("promise 27");
    MeshRouting x = PacketsTest.chainAt9();
    Check.due("follow(0, 3)", x.follow(0, 3), 3);
    Check.due("follow(1, 3)", x.follow(1, 3), 2);
    Check.due("follow(3, 0)", x.follow(3, 0), 3);
    Check.due("follow(2, 2)", x.follow(2, 2), 0);
    Check.due("follow(4, 4)", x.follow(4, 4), 0);
    Check.due("follow(0, 4)", x.follow(0, 4), -1);
    Check.due("follow(4, 0)", x.follow(4, 0), -1);
    x.setLink(2, 3, 0);
    Check.due("isValid(0, 3)", x.isValid(0, 3), true);
    Check.due("follow(0, 3): 2 has no valid route", x.follow(0, 3), -1);
    for (int node : new int[] {-1, 5, LEAST, MOST}) {
      Check.bounds(x, "follow(" + node + ", 0)", () -> x.follow(node, 0));
      Check.bounds(x, "follow(0, " + node + ")", () -> x.follow(0, node));
      Check.bounds(x, "follow(" + node + ", " + node + ")", () -> x.follow(node, node));
    }
  }

  private static void loops() {
    Check.part("promises 27 and 28");
    Check.due("loops() without routes", new MeshRouting(10).loops(), 0);
    Check.due("loops() of a chain", PacketsTest.chainAt9().loops(), 0);
    MeshRouting x = Loop.made();
    Check.due("loops() before", x.loops(), 0);
    x.run(2);
    Check.due("follow(1, 3)", x.follow(1, 3), -2);
    Check.due("follow(2, 3)", x.follow(2, 3), -2);
    Check.due("follow(1, 2)", x.follow(1, 2), 1);
    Check.due("loops()", x.loops(), 2);
    // 0 hears from 1 what 1 holds to be true, and so gets into the loop too.
    x.setLink(0, 1, 1);
    x.send(0, 3);
    x.run(2);
    Check.due("follow(0, 3)", x.follow(0, 3), -2);
    Check.due("loops()", x.loops(), 3);
    x.setLink(1, 2, 0);
    Check.due("loops() after the break", x.loops(), 0);
  }

  private static void distance() {
    Check.part("promise 29");
    MeshRouting x = Check.mesh(10, 0, 1, 1, 2, 2, 3, 3, 4, 4, 5, 5, 6, 6, 7, 7, 8, 8, 9);
    for (int a = 0; a < 10; a++) {
      for (int b = 0; b < 10; b++) {
        Check.due("distance(" + a + ", " + b + ")", x.distance(a, b), Math.abs(a - b));
      }
    }
    x.setLink(2, 8, 9);
    Check.due("distance(0, 9) by the short cut", x.distance(0, 9), 4);
    Check.due("distance(9, 0)", x.distance(9, 0), 4);
    Check.due("distance(4, 7)", x.distance(4, 7), 3);
    x.setLink(1, 2, 0);
    Check.due("distance(0, 9)", x.distance(0, 9), -1);
    Check.due("distance(0, 1)", x.distance(0, 1), 1);
    Check.due("distance(0, 0)", x.distance(0, 0), 0);
    for (int node : new int[] {-1, 10, LEAST, MOST}) {
      Check.bounds(x, "distance(" + node + ", 0)", () -> x.distance(node, 0));
      Check.bounds(x, "distance(0, " + node + ")", () -> x.distance(0, node));
      Check.bounds(x, "distance(" + node + ", " + node + ")", () -> x.distance(node, node));
    }
  }

  private static void totalHops() {
    Check.part("promise 30");
    MeshRouting x = PacketsTest.chainAt9();
    Check.due("totalHops()", x.totalHops(), 3);
    x.send(1, 3);
    x.send(3, 2);
    Check.due("totalHops(), those on links do not count", x.totalHops(), 3);
    x.run(1);
    Check.due("totalHops()", x.totalHops(), 4);
    x.setLink(2, 3, 0);
    Check.due("hopsOf(1), which is lost", x.hopsOf(1), 2);
    Check.due("stateOf(1)", x.stateOf(1), 3);
    Check.due("totalHops(), those dropped do not count", x.totalHops(), 4);
  }

  private static void forecast() {
    Check.part("promise 31");
    MeshRouting x = PacketsTest.chainAt9();
    Check.due("forecast(0, 3, 0)", x.forecast(0, 3, 0), 1);
    Check.due("forecast(0, 3, 2)", x.forecast(0, 3, 2), 1);
    Check.due("forecast(0, 3, 3)", x.forecast(0, 3, 3), 2);
    Check.due("forecast(0, 3, 100000)", x.forecast(0, 3, 100000), 2);
    Check.due("forecast(0, 4, 0)", x.forecast(0, 4, 0), 0);
    Check.due("forecast(0, 4, 100000)", x.forecast(0, 4, 100000), 3);
    Check.due("time()", x.time(), 9);
    Check.bounds(x, "stateOf(1)", () -> x.stateOf(1));
    for (int node : new int[] {-1, 5, LEAST, MOST}) {
      Check.bounds(x, "forecast(" + node + ", 0, 1)", () -> x.forecast(node, 0, 1));
      Check.bounds(x, "forecast(0, " + node + ", 1)", () -> x.forecast(0, node, 1));
      Check.bounds(x, "the node comes first", () -> x.forecast(node, node, -1));
    }
    Check.argument(x, "forecast(1, 1, 1)", () -> x.forecast(1, 1, 1));
    for (int units : new int[] {-1, 100001, LEAST, MOST}) {
      Check.argument(x, "forecast(0, 1, " + units + ")", () -> x.forecast(0, 1, units));
    }
  }

  private static void forecastOfFullObject() {
    Check.part("promise 31, 200 packets");
    MeshRouting x = new MeshRouting(2);
    for (int packet = 0; packet < 199; packet++) {
      x.send(0, 1);
    }
    Check.due("forecast(0, 1, 0) of the last one", x.forecast(0, 1, 0), 0);
    Check.due("forecast(0, 1, 0) again", x.forecast(0, 1, 0), 0);
    x.send(0, 1);
    Check.due("forecast(0, 1, 0) of none", x.forecast(0, 1, 0), -1);
    Check.due("forecast(0, 1, 100000) of none", x.forecast(0, 1, 100000), -1);
    Check.bounds(x, "forecast(0, 2, 0)", () -> x.forecast(0, 2, 0));
    Check.argument(x, "forecast(0, 0, 0)", () -> x.forecast(0, 0, 0));
    Check.argument(x, "forecast(0, 1, -1)", () -> x.forecast(0, 1, -1));
  }

  private static void forecastChangesNothing() {
    Check.part("promise 31, nothing is changed");
    MeshRouting x = busy();
    MeshRouting y = busy();
    for (int k = 0; k < 30; k++) {
      x.forecast(k % 5, (k + 1) % 5, k * 40);
      Check.due("fingerprint() after forecast " + k, x.fingerprint(), y.fingerprint());
      Check.due("step " + k, x.step(), y.step());
    }
    Check.due("run(1000)", x.run(1000), y.run(1000));
    Check.due("fingerprint() at the end", x.fingerprint(), y.fingerprint());
  }

  /** A mesh with messages of several kinds on links, searches, and packets in buffers. */
  private static MeshRouting busy() {
    MeshRouting x = PacketsTest.chainAt9();
    x.setLink(2, 3, 0);
    x.setLink(2, 3, 4);
    x.send(0, 3);
    x.send(3, 0);
    x.send(1, 4);
    x.send(4, 2);
    x.run(2);
    x.send(2, 0);
    return x;
  }

  private static void damage() {
    Check.part("promise 32");
    MeshRouting x = PacketsTest.chainAt9();
    x.setParameter(7, 0);
    x.send(0, 3);
    x.send(0, 1);
    Check.due("damage(0, 1, 0): both are on it", x.damage(0, 1, 0), 2);
    Check.due("damage(1, 0, 0)", x.damage(1, 0, 0), 2);
    Check.due("damage(1, 2, 0): nothing yet", x.damage(1, 2, 0), 0);
    Check.due("damage(1, 2, 1): one at 1", x.damage(1, 2, 1), 1);
    Check.due("damage(2, 3, 1): nothing yet", x.damage(2, 3, 1), 0);
    Check.due("damage(2, 3, 100000)", x.damage(2, 3, 100000), 1);
    x.run(1);
    Check.due("damage(0, 1, 100000) behind them", x.damage(0, 1, 100000), 0);
    x.setLink(1, 2, 0);
    Check.due("those dropped now do not count", x.packets(3), 1);
    Check.due("damage(0, 1, 100000)", x.damage(0, 1, 100000), 0);
    for (int node : new int[] {-1, 5, LEAST, MOST}) {
      Check.bounds(x, "damage(" + node + ", 0, 1)", () -> x.damage(node, 0, 1));
      Check.bounds(x, "damage(0, " + node + ", 1)", () -> x.damage(0, node, 1));
      Check.bounds(x, "the node comes first", () -> x.damage(node, node, -1));
    }
    Check.argument(x, "damage(1, 1, 1)", () -> x.damage(1, 1, 1));
    for (int units : new int[] {-1, 100001, LEAST, MOST}) {
      Check.argument(x, "damage(0, 1, " + units + ")", () -> x.damage(0, 1, units));
    }
  }

  private static void damageOfLinkThatIsDown() {
    Check.part("promise 32, a link that is down");
    MeshRouting x = new MeshRouting(3);
    x.send(0, 1);
    x.setParameter(6, 1);
    Check.due("damage(1, 2, 39)", x.damage(1, 2, 39), 0);
    // Timeouts: 40, then ranges 3, 5, 10, 10 with a patience of 1.
    Check.due("damage(1, 2, 71)", x.damage(1, 2, 71), 0);
    Check.due("damage(1, 2, 72): it would be dropped anyhow", x.damage(1, 2, 72), 1);
    Check.due("damage(1, 2, 100000)", x.damage(1, 2, 100000), 1);
  }

  private static void damageKnowsThePackets() {
    Check.part("promise 32, which packets they are");
    MeshRouting x = PacketsTest.chainAt9();
    x.send(1, 2);
    x.send(2, 1);
    x.send(3, 2);
    Check.due("damage(1, 2, 0)", x.damage(1, 2, 0), 2);
    Check.due("damage(2, 3, 0)", x.damage(2, 3, 0), 1);
    MeshRouting y = new MeshRouting(3);
    y.send(0, 1);
    y.send(2, 1);
    y.send(0, 1);
    y.send(0, 2);
    Check.due("damage(0, 1, 100000): all in buffers", y.damage(0, 1, 100000), 4);
    // The route that 1 finds expires on its way; 1 searches again as the origin of the packet.
    MeshRouting z = new MeshRouting(3);
    z.setLink(0, 1, 9);
    z.setParameter(0, 9);
    z.setParameter(7, 0);
    z.send(1, 0);
    Check.due("damage(0, 2, 100)", z.damage(0, 2, 100), 0);
    z.run(100);
    Check.due("stateOf(0)", z.stateOf(0), 2);
  }

  private static void damageChangesNothing() {
    Check.part("promise 32, nothing is changed");
    MeshRouting x = busy();
    MeshRouting y = busy();
    for (int k = 0; k < 30; k++) {
      x.damage(k % 4, k % 4 + 1, k * 40);
      Check.due("fingerprint() after damage " + k, x.fingerprint(), y.fingerprint());
      Check.due("step " + k, x.step(), y.step());
      Check.due("link(1, 2)", x.link(1, 2), 1);
    }
    Check.due("run(1000)", x.run(1000), y.run(1000));
    Check.due("fingerprint() at the end", x.fingerprint(), y.fingerprint());
  }

  private static void keepAndRestore() {
    Check.part("promises 33 and 34");
    MeshRouting x = new MeshRouting(3);
    Check.state(x, "restore() of nothing", () -> x.restore());
    Check.due("keep()", x.keep(), 0);
    x.run(7);
    Check.due("restore()", x.restore(), 0);
    Check.due("time()", x.time(), 0);
    x.run(9);
    Check.due("keep() in place of the first", x.keep(), 9);
    x.run(1);
    Check.due("restore()", x.restore(), 9);
    x.run(2);
    Check.due("restore(), for the checkpoint stays", x.restore(), 9);
    MeshRouting y = new MeshRouting(3);
    Check.state(y, "restore(), another object kept", () -> y.restore());
  }

  private static void restoreMakesEverythingAsItWas() {
    Check.part("promise 34, everything");
    MeshRouting x = busy();
    MeshRouting y = busy();
    x.keep();
    for (int round = 0; round < 2; round++) {
      for (int parameter = 0; parameter < 8; parameter++) {
        x.setParameter(parameter, 1);
      }
      x.setLink(1, 2, 0);
      x.setLink(0, 3, 5);
      x.setLink(3, 4, 5);
      x.send(0, 4);
      x.run(5000);
      x.send(3, 1);
      x.forecast(2, 4, 50);
      x.restore();
    }
    for (int a = 0; a < 5; a++) {
      for (int b = 0; b < 5; b++) {
        Check.due("link(" + a + ", " + b + ")", x.link(a, b), y.link(a, b));
        Check.due("expiry(" + a + ", " + b + ")", x.expiry(a, b), y.expiry(a, b));
        Check.due("timeout(" + a + ", " + b + ")", x.timeout(a, b), y.timeout(a, b));
      }
    }
    for (int packet = 0; packet < 6; packet++) {
      Check.due("endOf(" + packet + ")", x.endOf(packet), y.endOf(packet));
      Check.due("nodeOf(" + packet + ")", x.nodeOf(packet), y.nodeOf(packet));
      Check.due("hopsOf(" + packet + ")", x.hopsOf(packet), y.hopsOf(packet));
      Check.due("whyDropped(" + packet + ", 1)", x.whyDropped(packet, 1), y.whyDropped(packet, 1));
    }
    Check.bounds(x, "stateOf(6)", () -> x.stateOf(6));
    for (int event = 0; event < 100; event++) {
      Check.due("fingerprint() before event " + event, x.fingerprint(), y.fingerprint());
      Check.due("nextEvent() " + event, x.nextEvent(), y.nextEvent());
      Check.due("step " + event, x.step(), y.step());
    }
    Check.due("run(10000)", x.run(10000), y.run(10000));
    Check.due("fingerprint() at the end", x.fingerprint(), y.fingerprint());
    for (int parameter = 0; parameter < 8; parameter++) {
      Check.due("parameter " + parameter, x.setParameter(parameter, 2), y.setParameter(parameter, 2));
    }
  }

  private static void fingerprintOfNewObject() {
    Check.part("promise 35, a new object");
    // 29; time, sent, inFlight; 2 pairs of 0 -1 -1 -2 0 0 0; 2 own sequence numbers; packets.
    int[] numbers = {0, 0, 0, 0, 0, 0, 0, 0, 0, 0, -1, -1, -2, 0, 0, 0, 0, -1, -1, -2, 0, 0, 0, 0, 0, 0,
        0, 0, 0};
    long print = 29;
    for (int number : numbers) {
      print = print * 31 + number;
    }
    Check.due("fingerprint()", new MeshRouting(2).fingerprint(), print);
    Check.due("fingerprint() of fewer than 2 nodes", new MeshRouting(-9).fingerprint(), print);
  }

  private static void fingerprintOfNumbers() {
    Check.part("promise 35");
    for (int event = 0; event < 60; event++) {
      int steps = event;
      Maker made = () -> {
        MeshRouting x = busy();
        for (int k = 0; k < steps; k++) {
          x.step();
        }
        return x;
      };
      Check.due("fingerprint() after event " + event, made.made().fingerprint(),
          fingerprintBy(made, 5));
    }
    Maker loop = () -> {
      MeshRouting x = Loop.made();
      x.run(5);
      return x;
    };
    Check.due("fingerprint() of a loop", loop.made().fingerprint(), fingerprintBy(loop, 10));
  }

  interface Maker {
    MeshRouting made();
  }

  /**
   * The fingerprint as the document makes it from the answers of the other calls. Each node's table
   * is asked of an object of its own, so that none gets more than 512 calls.
   */
  private static long fingerprintBy(Maker maker, int nodes) {
    MeshRouting x = maker.made();
    long print = 29 * 31 + x.time();
    for (int kind = 0; kind < 4; kind++) {
      print = print * 31 + x.sent(kind);
    }
    for (int kind = 0; kind < 4; kind++) {
      print = print * 31 + x.inFlight(kind);
    }
    for (int i = 0; i < nodes; i++) {
      MeshRouting y = maker.made();
      for (int d = 0; d < nodes; d++) {
        if (i != d) {
          int[] cell = {y.isValid(i, d) ? 1 : 0, y.nextNode(i, d), y.hops(i, d), y.sequence(i, d),
              y.users(i, d), y.searching(i, d), y.buffered(i, d)};
          for (int number : cell) {
            print = print * 31 + number;
          }
        }
      }
    }
    for (int i = 0; i < nodes; i++) {
      print = print * 31 + x.sequence(i, i);
    }
    for (int state = 0; state < 4; state++) {
      print = print * 31 + x.packets(state);
    }
    return print;
  }
}
