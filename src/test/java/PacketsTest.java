/** Promises 21 to 26: what has become of the packets. */
public final class PacketsTest {
  public static void main(String[] args) {
    onItsWay();
    searchFails();
    bufferIsFull();
    noRouteOnTheWay();
    repairFails();
    linkBreaks();
    tooManyLinks();
    wrongNumbers();
    Check.end("PacketsTest");
  }

  private static void packet(MeshRouting x, int packet, int state, int node, int hops, int end,
      int cause) {
    Check.due("stateOf(" + packet + ")", x.stateOf(packet), state);
    Check.due("nodeOf(" + packet + ")", x.nodeOf(packet), node);
    Check.due("hopsOf(" + packet + ")", x.hopsOf(packet), hops);
    Check.due("endOf(" + packet + ")", x.endOf(packet), end);
    Check.due("whyDropped(" + packet + ", 0)", x.whyDropped(packet, 0), cause / 10);
    Check.due("whyDropped(" + packet + ", 1)", x.whyDropped(packet, 1), cause);
  }

  private static void counts(MeshRouting x, int... want) {
    for (int state = 0; state < 4; state++) {
      Check.due("packets(" + state + ")", x.packets(state), want[state]);
    }
  }

  /** 0 - 1 - 2 - 3, over which packet 0 was delivered at 9; all routes are valid until 60. */
  static MeshRouting chainAt9() {
    MeshRouting x = Check.mesh(5, 0, 1, 1, 2, 2, 3);
    x.setParameter(1, 3);
    x.send(0, 3);
    x.run(9);
    return x;
  }

  private static void onItsWay() {
    Check.part("promises 21 to 26, on its way");
    MeshRouting x = Check.mesh(4, 0, 1, 1, 2, 2, 3);
    x.setParameter(1, 3);
    x.send(0, 3);
    packet(x, 0, 0, 0, 0, -1, 0);
    counts(x, 1, 0, 0, 0);
    x.run(5);
    packet(x, 0, 0, 0, 0, -1, 0);
    x.run(1);
    packet(x, 0, 1, 1, 1, -1, 0);
    counts(x, 0, 1, 0, 0);
    x.run(1);
    packet(x, 0, 1, 2, 2, -1, 0);
    x.run(1);
    packet(x, 0, 1, 3, 3, -1, 0);
    x.run(1);
    packet(x, 0, 2, 3, 3, 9, 0);
    counts(x, 0, 0, 1, 0);
    x.run(1000);
    packet(x, 0, 2, 3, 3, 9, 0);
  }

  private static void searchFails() {
    Check.part("cause 11");
    MeshRouting x = new MeshRouting(2);
    x.setParameter(6, 1);
    x.send(0, 1);
    x.run(10);
    x.send(0, 1);
    counts(x, 2, 0, 0, 0);
    // Ranges 1, 3, 5, 10, 10.
    x.run(23);
    packet(x, 0, 0, 0, 0, -1, 0);
    x.run(1);
    packet(x, 0, 3, 0, 0, 34, 11);
    packet(x, 1, 3, 0, 0, 34, 11);
    counts(x, 0, 0, 0, 2);
  }

  private static void bufferIsFull() {
    Check.part("cause 21");
    MeshRouting x = new MeshRouting(2);
    for (int packet = 0; packet < 4; packet++) {
      x.send(0, 1);
    }
    counts(x, 4, 0, 0, 0);
    x.run(7);
    x.send(0, 1);
    packet(x, 0, 3, 0, 0, 7, 21);
    packet(x, 1, 0, 0, 0, -1, 0);
    packet(x, 4, 0, 0, 0, -1, 0);
    x.send(0, 1);
    packet(x, 1, 3, 0, 0, 7, 21);
    counts(x, 4, 0, 0, 2);
    x.setLink(0, 1, 1);
    x.run(36);
    for (int packet = 2; packet < 6; packet++) {
      packet(x, packet, 2, 1, 1, 43, 0);
    }
  }

  private static void noRouteOnTheWay() {
    Check.part("cause 12");
    // Without repairs.
    MeshRouting x = chainAt9();
    x.setParameter(7, 0);
    x.send(0, 3);
    x.setLink(1, 2, 0);
    x.run(1);
    packet(x, 1, 3, 1, 1, 10, 12);
    Check.due("errors: by the break and by the drop", x.sent(2), 2);
    counts(x, 0, 0, 1, 1);
    // The entry has 2 hops, which a repair of 1 does not reach, but one of 2 does.
    for (int repair = 1; repair <= 2; repair++) {
      MeshRouting y = chainAt9();
      y.setParameter(7, repair);
      y.send(0, 3);
      y.setLink(1, 2, 0);
      y.run(1);
      packet(y, 1, repair == 1 ? 3 : 0, 1, 1, repair == 1 ? 10 : -1, repair == 1 ? 12 : 0);
      Check.due("searching(1, 3)", y.searching(1, 3), repair == 1 ? 0 : 2);
    }
  }

  private static void repairFails() {
    Check.part("cause 13");
    MeshRouting x = chainAt9();
    x.send(0, 3);
    x.run(1);
    x.send(1, 3);
    x.setLink(2, 3, 0);
    x.run(1);
    packet(x, 1, 0, 2, 2, -1, 0);
    packet(x, 2, 0, 2, 1, -1, 0);
    Check.due("timeout(2, 3): range 3", x.timeout(2, 3), 11 + 80);
    Check.due("sent(2): the break", x.sent(2), 2);
    x.run(79);
    packet(x, 1, 0, 2, 2, -1, 0);
    x.run(1);
    packet(x, 1, 3, 2, 2, 91, 13);
    packet(x, 2, 3, 2, 1, 91, 13);
    Check.due("sent(2): no users are left", x.sent(2), 2);
  }

  private static void linkBreaks() {
    Check.part("cause 22");
    MeshRouting x = chainAt9();
    x.send(0, 3);
    x.send(0, 1);
    x.send(1, 0);
    x.send(3, 2);
    x.send(1, 2);
    x.send(2, 1);
    counts(x, 0, 6, 1, 0);
    x.setLink(0, 1, 0);
    packet(x, 1, 3, 1, 1, 9, 22);
    packet(x, 2, 3, 1, 1, 9, 22);
    packet(x, 3, 3, 0, 1, 9, 22);
    packet(x, 4, 1, 2, 1, -1, 0);
    packet(x, 5, 1, 2, 1, -1, 0);
    packet(x, 6, 1, 1, 1, -1, 0);
    counts(x, 0, 3, 1, 3);
    Check.due("inFlight(3)", x.inFlight(3), 3);
    x.run(1);
    packet(x, 4, 2, 2, 1, 10, 0);
    packet(x, 5, 2, 2, 1, 10, 0);
    packet(x, 6, 2, 1, 1, 10, 0);
  }

  private static void tooManyLinks() {
    Check.part("cause 23");
    MeshRouting x = Loop.made();
    int packet = Loop.PACKET;
    packet(x, packet, 0, 2, 0, -1, 0);
    x.run(2);
    packet(x, packet, 1, 1, 1, -1, 0);
    int start = x.time();
    x.run(29);
    packet(x, packet, 1, 2, 30, -1, 0);
    x.run(1);
    packet(x, packet, 3, 2, 30, start + 30, 23);
    Check.due("sent(2): no error for this", x.sent(2), Loop.ERRORS);
  }

  private static void wrongNumbers() {
    Check.part("promises 21 to 26, wrong numbers");
    MeshRouting x = chainAt9();
    x.send(4, 0);
    for (int packet : new int[] {-1, 2, 200, Integer.MIN_VALUE, Integer.MAX_VALUE}) {
      Check.bounds(x, "stateOf(" + packet + ")", () -> x.stateOf(packet));
      Check.bounds(x, "nodeOf(" + packet + ")", () -> x.nodeOf(packet));
      Check.bounds(x, "hopsOf(" + packet + ")", () -> x.hopsOf(packet));
      Check.bounds(x, "endOf(" + packet + ")", () -> x.endOf(packet));
      Check.bounds(x, "whyDropped(" + packet + ", 0)", () -> x.whyDropped(packet, 0));
      Check.bounds(x, "whyDropped(" + packet + ", 2)", () -> x.whyDropped(packet, 2));
    }
    for (int odd : new int[] {-1, 2, Integer.MIN_VALUE, Integer.MAX_VALUE}) {
      Check.bounds(x, "whyDropped(0, " + odd + ")", () -> x.whyDropped(0, odd));
    }
    for (int state : new int[] {-1, 4, Integer.MIN_VALUE, Integer.MAX_VALUE}) {
      Check.bounds(x, "packets(" + state + ")", () -> x.packets(state));
    }
    packet(x, 1, 0, 4, 0, -1, 0);
  }
}
