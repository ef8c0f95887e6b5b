/**
 * Every exception that a call of the document names: for the next values beyond the range of each
 * argument, which one comes first when several apply, and that such a call changes nothing (see
 * Twins). Then the calls that answer something else and change nothing all the same.
 */
public final class BoundaryRefusalsTest {
  interface PairCall {
    long of(MeshRouting x, int a, int b);
  }

  interface PacketCall {
    long of(MeshRouting x, int packet);
  }

  private static final int LEAST = Integer.MIN_VALUE;
  private static final int MOST = Integer.MAX_VALUE;
  private static final int N = Twins.NODES;
  // All that is no node, in the first place, in the second one, and in both.
  private static final int[][] NO_NODES = {{-1, 0}, {N, 0}, {LEAST, 0}, {MOST, 0}, {0, -1}, {1, N},
      {2, LEAST}, {3, MOST}, {-1, -1}, {N, N}, {-1, N}, {MOST, LEAST}};

  private static final String[] PAIR_NAMES = {"setLink", "setLink down", "link", "send", "isValid",
      "nextNode", "hops", "sequence", "expiry", "users", "searching", "timeout", "buffered",
      "follow", "distance", "forecast", "damage"};
  private static final PairCall[] PAIR_CALLS = {
      (x, a, b) -> x.setLink(a, b, 1),
      (x, a, b) -> x.setLink(a, b, 0),
      (x, a, b) -> x.link(a, b),
      (x, a, b) -> x.send(a, b),
      (x, a, b) -> x.isValid(a, b) ? 1 : 0,
      (x, a, b) -> x.nextNode(a, b),
      (x, a, b) -> x.hops(a, b),
      (x, a, b) -> x.sequence(a, b),
      (x, a, b) -> x.expiry(a, b),
      (x, a, b) -> x.users(a, b),
      (x, a, b) -> x.searching(a, b),
      (x, a, b) -> x.timeout(a, b),
      (x, a, b) -> x.buffered(a, b),
      (x, a, b) -> x.follow(a, b),
      (x, a, b) -> x.distance(a, b),
      (x, a, b) -> x.forecast(a, b, 9),
      (x, a, b) -> x.damage(a, b, 9)};

  private static final String[] PACKET_NAMES = {"stateOf", "nodeOf", "hopsOf", "endOf",
      "whyDropped of depth 0", "whyDropped of depth 1"};
  private static final PacketCall[] PACKET_CALLS = {
      (x, packet) -> x.stateOf(packet),
      (x, packet) -> x.nodeOf(packet),
      (x, packet) -> x.hopsOf(packet),
      (x, packet) -> x.endOf(packet),
      (x, packet) -> x.whyDropped(packet, 0),
      (x, packet) -> x.whyDropped(packet, 1)};

  public static void main(String[] args) {
    twinsHaveEverything();
    for (int kind = 0; kind < Twins.KINDS; kind++) {
      noNodes(kind);
      sameNodes(kind);
      delays(kind);
      parameters(kind);
      units(kind);
      kindsAndStates(kind);
      packetsThatWereNotSent(kind);
      depths(kind);
      questions(kind);
    }
    firstAndLastNodes();
    fullSend();
    fullForecast();
    nothingKept();
    noEvent();
    nothingSent();
    Check.end("BoundaryRefusalsTest");
  }

  private static String pair(String call, int a, int b) {
    return call + "(" + a + ", " + b + ")";
  }

  private static void twinsHaveEverything() {
    Check.part("what the twins hold");
    for (int kind = Twins.BUSY; kind <= Twins.FULL; kind++) {
      MeshRouting x = Twins.made(kind);
      for (int k = 0; k < 4; k++) {
        Check.due("a message of kind " + k, x.inFlight(k) > 0, true);
        Check.due("a packet in state " + k, x.packets(k) > 0, true);
      }
      Check.due("a search", x.searching(3, 0), 1);
      Check.due("a repair", x.searching(2, 3), 2);
      Check.due("packets that were sent",
          x.packets(0) + x.packets(1) + x.packets(2) + x.packets(3), Twins.packetsOf(kind));
    }
  }

  private static void noNodes(int kind) {
    Check.part("\"if .. is not a node\"");
    for (int call = 0; call < PAIR_CALLS.length; call++) {
      PairCall made = PAIR_CALLS[call];
      for (int[] nodes : NO_NODES) {
        Twins.bounds(kind, pair(PAIR_NAMES[call], nodes[0], nodes[1]),
            x -> made.of(x, nodes[0], nodes[1]));
      }
    }
    Check.part("no node comes before a delay or units out of their range");
    for (int[] nodes : NO_NODES) {
      int a = nodes[0];
      int b = nodes[1];
      Twins.bounds(kind, pair("setLink 10", a, b), x -> x.setLink(a, b, 10));
      Twins.bounds(kind, pair("setLink -1", a, b), x -> x.setLink(a, b, -1));
      Twins.bounds(kind, pair("forecast -1", a, b), x -> x.forecast(a, b, -1));
      Twins.bounds(kind, pair("forecast 100001", a, b), x -> x.forecast(a, b, 100001));
      Twins.bounds(kind, pair("damage -1", a, b), x -> x.damage(a, b, -1));
      Twins.bounds(kind, pair("damage 100001", a, b), x -> x.damage(a, b, 100001));
    }
  }

  private static void sameNodes(int kind) {
    Check.part("\"if both are the same\"");
    for (int k = 0; k < N; k++) {
      int node = k;
      for (int delay = -1; delay <= 10; delay++) {
        int d = delay;
        Twins.argument(kind, pair("setLink " + d, k, k), x -> x.setLink(node, node, d));
      }
      Twins.argument(kind, pair("send", k, k), x -> x.send(node, node));
      for (int units : new int[] {-1, 0, 100000, 100001}) {
        Twins.argument(kind, pair("forecast " + units, k, k), x -> x.forecast(node, node, units));
        Twins.argument(kind, pair("damage " + units, k, k), x -> x.damage(node, node, units));
      }
    }
  }

  private static void delays(int kind) {
    Check.part("\"or delay is out of its range\"");
    for (int delay : new int[] {-1, 10, LEAST, MOST}) {
      Twins.argument(kind, "of a link that is up in a busy mesh", x -> x.setLink(1, 2, delay));
      Twins.argument(kind, "the other way", x -> x.setLink(2, 1, delay));
      Twins.argument(kind, "of a link that is down", x -> x.setLink(1, 3, delay));
    }
  }

  private static void parameters(int kind) {
    Check.part("\"if parameter is out of its range\", whatever the value");
    for (int parameter : new int[] {-1, 8, LEAST, MOST}) {
      for (int value : new int[] {1, 0, -1, 1001}) {
        Twins.bounds(kind, pair("setParameter", parameter, value),
            x -> x.setParameter(parameter, value));
      }
    }
    Check.part("\"if value is out of the range of the parameter\"");
    int[] least = {1, 1, 1, 1, 1, 1, 1, 0};
    int[] most = {1000, 10, 10, 10, 15, 3, 50, 10};
    for (int k = 0; k < 8; k++) {
      int parameter = k;
      for (int value : new int[] {least[k] - 1, most[k] + 1, LEAST, MOST}) {
        Twins.argument(kind, pair("setParameter", k, value),
            x -> x.setParameter(parameter, value));
      }
    }
  }

  private static void units(int kind) {
    Check.part("\"if units is out of its range\"");
    for (int units : new int[] {-1, 100001, LEAST, MOST}) {
      Twins.argument(kind, "run(" + units + ")", x -> x.run(units));
      Twins.argument(kind, "forecast(0, 3, " + units + ")", x -> x.forecast(0, 3, units));
      Twins.argument(kind, "damage(0, 1, " + units + ")", x -> x.damage(0, 1, units));
      Twins.argument(kind, "damage(1, 3, " + units + ")", x -> x.damage(1, 3, units));
    }
  }

  private static void kindsAndStates(int kind) {
    Check.part("\"if kind is out of its range\", \"if state is out of its range\"");
    for (int odd : new int[] {-1, 4, LEAST, MOST}) {
      Twins.bounds(kind, "inFlight(" + odd + ")", x -> x.inFlight(odd));
      Twins.bounds(kind, "sent(" + odd + ")", x -> x.sent(odd));
      Twins.bounds(kind, "packets(" + odd + ")", x -> x.packets(odd));
    }
  }

  private static void packetsThatWereNotSent(int kind) {
    Check.part("\"if there is no such packet\"");
    int count = Twins.packetsOf(kind);
    for (int call = 0; call < PACKET_CALLS.length; call++) {
      PacketCall made = PACKET_CALLS[call];
      for (int packet : new int[] {-1, count, 199 + count, 200, LEAST, MOST}) {
        Twins.bounds(kind, PACKET_NAMES[call] + " " + packet, x -> made.of(x, packet));
      }
    }
  }

  private static void depths(int kind) {
    Check.part("\"or depth is not 0 or 1\"");
    int last = Twins.packetsOf(kind) - 1;
    for (int depth : new int[] {-1, 2, LEAST, MOST}) {
      for (int packet : new int[] {-1, 0, last, last + 1}) {
        Twins.bounds(kind, pair("whyDropped", packet, depth), x -> x.whyDropped(packet, depth));
      }
    }
  }

  /** Not a word of the document lets a question change anything. */
  private static void questions(int kind) {
    Check.part("a question changes nothing");
    MeshRouting told = Twins.made(kind);
    for (int call = 4; call < PAIR_CALLS.length; call++) {
      PairCall made = PAIR_CALLS[call];
      int[][] pairs = {{0, 3}, {3, 0}, {1, 2}, {2, 3}};
      for (int[] nodes : pairs) {
        String want = Twins.outcome(told, x -> made.of(x, nodes[0], nodes[1]));
        Twins.answer(kind, pair(PAIR_NAMES[call], nodes[0], nodes[1]), want,
            x -> made.of(x, nodes[0], nodes[1]));
      }
    }
    Twins.answer(kind, "forecast(0, 3, 100000)", String.valueOf(told.forecast(0, 3, 100000)),
        x -> x.forecast(0, 3, 100000));
    Twins.answer(kind, "damage(0, 1, 100000)", String.valueOf(told.damage(0, 1, 100000)),
        x -> x.damage(0, 1, 100000));
    Twins.answer(kind, "loops()", "0", x -> x.loops());
    Twins.answer(kind, "totalHops()", String.valueOf(told.totalHops()), x -> x.totalHops());
    Twins.answer(kind, "time()", String.valueOf(told.time()), x -> x.time());
    Twins.answer(kind, "nextEvent()", String.valueOf(told.nextEvent()), x -> x.nextEvent());
    Twins.answer(kind, "run(0)", "0", x -> x.run(0));
    Twins.answer(kind, "setLink(1, 3, 0), which is down", "0", x -> x.setLink(1, 3, 0));
  }

  private static void firstAndLastNodes() {
    Check.part("the least and the greatest node, and the next ones beyond");
    for (int nodes = 2; nodes <= 10; nodes++) {
      int last = nodes - 1;
      for (int call = 0; call < PAIR_CALLS.length; call++) {
        PairCall made = PAIR_CALLS[call];
        MeshRouting x = new MeshRouting(nodes);
        int[][] good = {{0, last}, {last, 0}};
        for (int[] pair : good) {
          String got = Twins.outcome(x, y -> made.of(y, pair[0], pair[1]));
          Check.due(pair(PAIR_NAMES[call], pair[0], pair[1]) + " answers",
              got.endsWith("Exception"), false);
        }
        int[][] bad = {{0, nodes}, {nodes, 0}, {last, nodes}, {nodes, last}, {0, -1}, {-1, last}};
        for (int[] pair : bad) {
          Check.bounds(x, pair(PAIR_NAMES[call], pair[0], pair[1]) + " of " + nodes,
              () -> made.of(x, pair[0], pair[1]));
        }
      }
    }
  }

  private static void fullSend() {
    Check.part("\"if 200 packets have been sent\"");
    for (int a = 0; a < N; a++) {
      for (int b = 0; b < N; b++) {
        int origin = a;
        int destination = b;
        if (a != b) {
          Twins.state(Twins.FULL, pair("send", a, b), x -> x.send(origin, destination));
        }
      }
    }
    Check.part("the exception that is listed first");
    Twins.argument(Twins.FULL, "the same nodes", x -> x.send(0, 0));
    Twins.bounds(Twins.FULL, "no nodes that are the same", x -> x.send(N, N));
    Twins.bounds(Twins.FULL, "no node", x -> x.send(0, -1));
    Check.part("199 packets are not 200");
    MeshRouting x = new MeshRouting(2);
    for (int packet = 0; packet < 200; packet++) {
      Check.due("send " + packet, x.send(packet % 2, 1 - packet % 2), packet);
    }
    Check.state(x, "send 200", () -> x.send(0, 1));
    Check.state(x, "send 200 again", () -> x.send(1, 0));
  }

  private static void fullForecast() {
    Check.part("\"-1 if 200 packets have been sent\"");
    for (int units : new int[] {0, 1, 100000}) {
      Twins.answer(Twins.FULL, "forecast(0, 3, " + units + ")", "-1", x -> x.forecast(0, 3, units));
    }
    Check.part("an exception comes before -1");
    Twins.argument(Twins.FULL, "the same nodes", x -> x.forecast(2, 2, 0));
    Twins.argument(Twins.FULL, "units", x -> x.forecast(0, 1, 100001));
    Twins.bounds(Twins.FULL, "no node", x -> x.forecast(0, N, 100001));
  }

  private static void nothingKept() {
    Check.part("\"if nothing was kept\"");
    Twins.state(Twins.NEW, "restore()", x -> x.restore());
    MeshRouting x = new MeshRouting(3);
    Check.state(x, "restore()", () -> x.restore());
    x.setLink(0, 1, 1);
    x.send(0, 2);
    x.run(50);
    Check.state(x, "restore()", () -> x.restore());
    x.forecast(0, 1, 3);
    x.damage(0, 1, 3);
    Check.state(x, "restore(), a trial keeps nothing", () -> x.restore());
    Check.due("keep()", x.keep(), 50);
    Check.due("restore()", x.restore(), 50);
  }

  private static void noEvent() {
    Check.part("\"-1 if there is no event (then nothing changes)\"");
    Twins.answer(Twins.NEW, "step()", "-1", x -> x.step());
    Twins.answer(Twins.NEW, "nextEvent()", "-1", x -> x.nextEvent());
    MeshRouting x = PacketsTest.chainAt9();
    long before = x.fingerprint();
    for (int k = 0; k < 3; k++) {
      Check.due("nextEvent()", x.nextEvent(), -1);
      Check.due("step()", x.step(), -1);
      Check.due("time()", x.time(), 9);
      Check.due("fingerprint()", x.fingerprint(), before);
    }
    Check.due("run(0)", x.run(0), 0);
    Check.due("run(5)", x.run(5), 0);
    Check.due("time()", x.time(), 14);
  }

  private static void nothingSent() {
    Check.part("nothing there");
    MeshRouting x = Check.mesh(3, 0, 1);
    Check.bounds(x, "stateOf(0) of a new object", () -> x.stateOf(0));
    Check.bounds(x, "whyDropped(0, 0)", () -> x.whyDropped(0, 0));
    Check.due("totalHops()", x.totalHops(), 0);
    Check.due("loops()", x.loops(), 0);
    Check.due("damage(0, 1, 0)", x.damage(0, 1, 0), 0);
    Check.due("damage(0, 1, 100000)", x.damage(0, 1, 100000), 0);
    Check.due("damage(1, 2, 100000)", x.damage(1, 2, 100000), 0);
    Check.due("send(0, 2)", x.send(0, 2), 0);
    Check.due("stateOf(0)", x.stateOf(0), 0);
    Check.bounds(x, "stateOf(1)", () -> x.stateOf(1));
    Check.due("endOf(0)", x.endOf(0), -1);
    Check.due("whyDropped(0, 0)", x.whyDropped(0, 0), 0);
    Check.due("whyDropped(0, 1)", x.whyDropped(0, 1), 0);
  }
}
