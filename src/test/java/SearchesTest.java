/** The Terms: searches, repairs, what their ends bring about, and the order of events. */
public final class SearchesTest {
  public static void main(String[] args) {
    rings();
    diameterInTheRings();
    diameterBelowTheThreshold();
    startAtTheThreshold();
    parametersChangeOnTheWay();
    secondSearch();
    manyAsks();
    oneSearchForAllPackets();
    expiredReplyEndsNothing();
    repairRange();
    repairSucceeds();
    repairOfTheOriginFails();
    repairTellsUsers();
    searchAtTheMiddleHoldsPackets();
    foundDestinationsAscend();
    messageIsHandledFirst();
    oldestPacketsGoFirst();
    foundRouteIsLostAgain();
    foundRouteIsLostOnTheWay();
    foundOnlyOnce();
    heldUntilItIsFound();
    timeoutsInOrder();
    arrivalsBeforeTimeouts();
    Check.end("SearchesTest");
  }

  /** Takes a lonely search through its timeouts; each range shows in how long it waits. */
  private static void ranges(MeshRouting x, int... want) {
    int patience = x.setParameter(6, 7);
    x.setParameter(6, patience);
    for (int k = 0; k < want.length; k++) {
      Check.due("range of ask " + k, x.timeout(0, 1) - x.time(), patience * (want[k] + 1));
      Check.due("own sequence number", x.sequence(0, 0), k + 1);
      Check.due("step()", x.step(), 4);
    }
    Check.due("searching(0, 1)", x.searching(0, 1), 0);
    Check.due("timeout(0, 1)", x.timeout(0, 1), -1);
    Check.due("own sequence number", x.sequence(0, 0), want.length);
    Check.due("whyDropped(0, 1)", x.whyDropped(0, 1), 11);
    Check.due("step() at the end", x.step(), -1);
  }

  private static MeshRouting lonely(int start, int step, int threshold, int diameter, int tries) {
    MeshRouting x = new MeshRouting(2);
    int[] values = {start, step, threshold, diameter, tries};
    for (int k = 0; k < values.length; k++) {
      x.setParameter(k + 1, values[k]);
    }
    x.send(0, 1);
    return x;
  }

  private static void rings() {
    Check.part("rings");
    ranges(lonely(1, 2, 5, 10, 2), 1, 3, 5, 10, 10);
    ranges(lonely(1, 3, 5, 10, 1), 1, 4, 5, 10);
    ranges(lonely(2, 10, 5, 15, 3), 2, 5, 15, 15, 15);
    ranges(lonely(1, 1, 10, 1, 1), 1, 2, 3, 4, 5, 6, 7, 8, 9, 10, 1);
  }

  private static void diameterInTheRings() {
    Check.part("a ring that happens to have the range diameter");
    ranges(lonely(2, 2, 6, 4, 2), 2, 4, 6, 4, 4);
    ranges(lonely(5, 5, 10, 10, 2), 5, 10, 10, 10);
    ranges(lonely(10, 1, 10, 10, 1), 10, 10);
    ranges(lonely(3, 1, 4, 3, 1), 3, 4, 3);
  }

  private static void diameterBelowTheThreshold() {
    Check.part("a diameter below the threshold");
    ranges(lonely(1, 2, 5, 2, 3), 1, 3, 5, 2, 2, 2);
  }

  private static void startAtTheThreshold() {
    Check.part("a start at or above the threshold");
    ranges(lonely(5, 2, 5, 10, 2), 5, 10, 10);
    ranges(lonely(9, 2, 5, 7, 1), 9, 7);
  }

  private static void parametersChangeOnTheWay() {
    Check.part("parameters that change during a search");
    MeshRouting x = lonely(1, 2, 5, 10, 3);
    x.step();
    x.step();
    x.step();
    x.setParameter(5, 1);
    x.setParameter(3, 10);
    Check.due("the range is 10 now", x.timeout(0, 1) - x.time(), 220);
    x.step();
    Check.due("the tries are used up", x.searching(0, 1), 0);
    MeshRouting y = lonely(1, 2, 5, 10, 1);
    y.step();
    y.setParameter(2, 1);
    y.setParameter(6, 3);
    y.step();
    Check.due("a ring with the new step and patience", y.timeout(0, 1) - y.time(), 3 * 5);
    y.setParameter(3, 2);
    y.setParameter(4, 1);
    y.step();
    Check.due("above the new threshold", y.timeout(0, 1) - y.time(), 3 * 2);
    y.setParameter(5, 2);
    y.setParameter(3, 10);
    y.step();
    Check.due("one more try, and no more rings", y.timeout(0, 1) - y.time(), 3 * 2);
  }

  private static void secondSearch() {
    Check.part("a search after one that failed");
    MeshRouting x = lonely(1, 2, 5, 10, 2);
    x.run(1000);
    Check.due("searching(0, 1)", x.searching(0, 1), 0);
    x.send(0, 1);
    int[] want = {1, 3, 5, 10, 10};
    for (int range : want) {
      Check.due("timeout(0, 1) for range " + range, x.timeout(0, 1) - x.time(), 20 * (range + 1));
      x.step();
    }
    Check.due("searching(0, 1)", x.searching(0, 1), 0);
    Check.due("sequence(0, 0)", x.sequence(0, 0), 10);
  }

  /** Each request is remembered, however many there are; a checkpoint takes them along. */
  private static void manyAsks() {
    Check.part("many asks");
    MeshRouting x = Check.mesh(4, 0, 1, 1, 2, 2, 0);
    int[] values = {2, 1, 1, 2, 3, 1};
    for (int k = 0; k < values.length; k++) {
      x.setParameter(k + 1, values[k]);
    }
    for (int packet = 0; packet < 180; packet++) {
      x.send(0, 3);
      if (packet % 60 == 59) {
        x.keep();
        x.run(1);
        Check.due("forecast(0, 3, 100)", x.forecast(0, 3, 100), 3);
        x.restore();
      }
      x.run(12);
      if (packet % 9 == 0 || packet == 179) {
        Check.due("own sequence number after " + packet, x.sequence(0, 0), 4 * (packet + 1));
        Check.due("sequence(1, 0)", x.sequence(1, 0), 4 * (packet + 1));
        Check.due("sequence(2, 0)", x.sequence(2, 0), 4 * (packet + 1));
        Check.due("sent(0): 6 for each", x.sent(0), 24 * (packet + 1));
      }
    }
  }

  private static void expiredReplyEndsNothing() {
    Check.part("a reply that has expired");
    MeshRouting x = Check.mesh(3, 1, 2);
    x.setLink(0, 1, 9);
    x.setParameter(0, 10);
    x.setParameter(1, 2);
    x.send(0, 2);
    x.run(20);
    Check.due("isValid(0, 1)", x.isValid(0, 1), true);
    Check.due("expiry(0, 2)", x.expiry(0, 2), 20);
    Check.due("hops(0, 2)", x.hops(0, 2), 2);
    Check.due("isValid(0, 2)", x.isValid(0, 2), false);
    Check.due("searching(0, 2)", x.searching(0, 2), 1);
    Check.due("timeout(0, 2)", x.timeout(0, 2), 60);
    Check.due("buffered(0, 2)", x.buffered(0, 2), 1);
    Check.due("sequence(0, 0)", x.sequence(0, 0), 1);
  }

  private static void oneSearchForAllPackets() {
    Check.part("one search for a destination");
    MeshRouting x = Check.mesh(4, 0, 1);
    x.send(0, 2);
    x.run(5);
    x.send(0, 2);
    Check.due("sent(0)", x.sent(0), 1);
    Check.due("timeout(0, 2)", x.timeout(0, 2), 40);
    x.send(0, 3);
    Check.due("sent(0) for another destination", x.sent(0), 2);
    Check.due("timeout(0, 3)", x.timeout(0, 3), 45);
    Check.due("sequence(0, 0)", x.sequence(0, 0), 2);
  }

  private static void repairRange() {
    Check.part("the range of a repair");
    // 0 - 1 - 2 - 3 - 4, broken behind 1, where the entry for 4 has 3 hops: a range of 5.
    MeshRouting x = Check.mesh(5, 0, 1, 1, 2, 2, 3, 3, 4);
    x.setParameter(1, 4);
    x.send(0, 4);
    x.run(12);
    Check.due("stateOf(0)", x.stateOf(0), 2);
    x.send(0, 4);
    x.setLink(1, 2, 0);
    int own = x.sequence(1, 1);
    x.run(1);
    Check.due("searching(1, 4)", x.searching(1, 4), 2);
    Check.due("timeout(1, 4)", x.timeout(1, 4), 13 + 20 * 6);
    Check.due("sequence(1, 1)", x.sequence(1, 1), own + 1);
    x.run(119);
    Check.due("searching(1, 4)", x.searching(1, 4), 2);
    Check.due("step()", x.step(), 4);
    Check.due("searching(1, 4): a repair asks once", x.searching(1, 4), 0);
    Check.due("whyDropped(1, 1)", x.whyDropped(1, 1), 13);
    Check.due("sequence(1, 1)", x.sequence(1, 1), own + 1);
  }

  private static void repairSucceeds() {
    Check.part("a repair");
    MeshRouting x = PacketsTest.chainAt9();
    x.setLink(1, 4, 1);
    x.setLink(4, 3, 1);
    x.send(0, 3);
    x.setLink(1, 2, 0);
    x.run(1);
    Check.due("searching(1, 3)", x.searching(1, 3), 2);
    Check.due("buffered(1, 3)", x.buffered(1, 3), 1);
    x.send(1, 3);
    Check.due("a packet of its own waits too", x.buffered(1, 3), 2);
    Check.due("searching(1, 3)", x.searching(1, 3), 2);
    Check.due("sequence(3, 3)", x.sequence(3, 3), 0);
    // 1 asks 4, 4 asks 3, and the replies come back.
    x.run(4);
    Check.due("searching(1, 3)", x.searching(1, 3), 0);
    Check.due("timeout(1, 3)", x.timeout(1, 3), -1);
    Check.due("nextNode(1, 3)", x.nextNode(1, 3), 4);
    Check.due("sequence(1, 3): that of the break", x.sequence(1, 3), 1);
    Check.due("inFlight(3)", x.inFlight(3), 2);
    x.run(2);
    Check.due("stateOf(1)", x.stateOf(1), 2);
    Check.due("hopsOf(1)", x.hopsOf(1), 3);
    Check.due("stateOf(2)", x.stateOf(2), 2);
  }

  private static void repairOfTheOriginFails() {
    Check.part("a packet of its own in a repair");
    MeshRouting x = PacketsTest.chainAt9();
    x.send(0, 3);
    x.setLink(1, 2, 0);
    x.run(1);
    x.send(1, 3);
    Check.due("searching(1, 3)", x.searching(1, 3), 2);
    x.run(1000);
    Check.due("whyDropped(1, 1)", x.whyDropped(1, 1), 13);
    Check.due("whyDropped(2, 1)", x.whyDropped(2, 1), 13);
    Check.due("endOf(2): a range of 2 + 2", x.endOf(2), 10 + 20 * 5);
  }

  /** Entries that expire keep their users; 0 sends one more packet in the last unit of its route. */
  private static void repairTellsUsers() {
    Check.part("users at the end of a repair");
    MeshRouting x = PacketsTest.chainAt9();
    x.setLink(1, 4, 1);
    x.send(4, 3);
    x.run(5);
    x.setParameter(0, 100);
    x.send(0, 3);
    Check.due("expiry(0, 3)", x.expiry(0, 3), 114);
    x.setParameter(0, 1);
    x.run(99);
    Check.due("packets(2)", x.packets(2), 3);
    Check.due("isValid(0, 3)", x.isValid(0, 3), true);
    Check.due("isValid(1, 3)", x.isValid(1, 3), false);
    Check.due("users(1, 3)", x.users(1, 3), 17);
    x.setLink(1, 2, 0);
    Check.due("sent(2): nothing valid broke", x.sent(2), 0);
    x.keep();
    for (int downLink = 0; downLink < 2; downLink++) {
      x.restore();
      x.setLink(1, 4, downLink == 1 ? 0 : 1);
      x.send(0, 3);
      x.run(1);
      Check.due("searching(1, 3)", x.searching(1, 3), 2);
      Check.due("users(1, 3) during the repair", x.users(1, 3), 17);
      x.run(99);
      Check.due("searching(1, 3)", x.searching(1, 3), 2);
      Check.due("sent(2) during the repair", x.sent(2), 0);
      x.run(1);
      Check.due("searching(1, 3)", x.searching(1, 3), 0);
      Check.due("whyDropped(3, 1)", x.whyDropped(3, 1), 13);
      Check.due("users(1, 3) after the repair", x.users(1, 3), 0);
      Check.due("sent(2)", x.sent(2), 2 - downLink);
      x.setLink(0, 1, 0);
      Check.due("inFlight(2) but for that to 0", x.inFlight(2), 1 - downLink);
    }
    Check.part("users at the end of a repair, in ascending order");
    x.restore();
    x.send(0, 3);
    x.run(101);
    Check.due("inFlight(2)", x.inFlight(2), 2);
    Check.due("step()", x.step(), 2);
    x.setLink(1, 4, 0);
    Check.due("the first one was that to 0", x.inFlight(2), 0);
  }

  private static void searchAtTheMiddleHoldsPackets() {
    Check.part("a packet of another node in a search");
    MeshRouting x = PacketsTest.chainAt9();
    x.setParameter(1, 1);
    x.send(0, 3);
    x.setLink(1, 2, 0);
    x.send(1, 3);
    Check.due("searching(1, 3)", x.searching(1, 3), 1);
    int timeout = x.timeout(1, 3);
    x.run(1);
    Check.due("searching(1, 3)", x.searching(1, 3), 1);
    Check.due("timeout(1, 3)", x.timeout(1, 3), timeout);
    Check.due("buffered(1, 3)", x.buffered(1, 3), 2);
    x.run(2000);
    Check.due("whyDropped(1, 1)", x.whyDropped(1, 1), 11);
    Check.due("whyDropped(2, 1)", x.whyDropped(2, 1), 11);
  }

  /** A request of a over b reaches 1, which has packets for both. */
  private static void foundDestinationsAscend() {
    for (int way = 0; way < 2; way++) {
      int origin = way == 0 ? 0 : 2;
      int middle = 2 - origin;
      Check.part("two destinations are found, the neighbour is " + middle);
      MeshRouting x = new MeshRouting(4);
      x.setParameter(1, 2);
      x.setParameter(6, 50);
      x.send(1, origin);
      x.send(1, middle);
      x.setLink(origin, middle, 1);
      x.setLink(middle, 1, 1);
      x.send(origin, 3);
      x.run(2);
      Check.due("searching(1, 0)", x.searching(1, 0), 0);
      Check.due("searching(1, 2)", x.searching(1, 2), 0);
      Check.due("inFlight(3)", x.inFlight(3), 2);
      int kind = x.step();
      for (int left = 0; left < 5 && kind != 3; left++) {
        kind = x.step();
      }
      Check.due("the first packet is that for 0", x.hopsOf(way), way == 0 ? 2 : 1);
      Check.due("it has arrived", way == 0 ? x.nodeOf(0) : x.stateOf(1), way == 0 ? 0 : 2);
      Check.due("the other one has not", x.stateOf(1 - way), 1);
      x.run(5);
      Check.due("packets(2)", x.packets(2), 2);
    }
  }

  private static void messageIsHandledFirst() {
    Check.part("a message is handled before the packets");
    MeshRouting x = new MeshRouting(2);
    x.send(1, 0);
    x.setLink(0, 1, 1);
    x.send(0, 1);
    Check.due("the request", x.step(), 0);
    Check.due("inFlight(1)", x.inFlight(1), 1);
    Check.due("inFlight(3)", x.inFlight(3), 1);
    Check.due("the reply", x.step(), 1);
    Check.due("the packet", x.step(), 3);
    Check.part("a packet is handled before the packets");
    MeshRouting y = Check.mesh(3, 0, 1);
    y.send(1, 0);
    y.run(3);
    y.setLink(0, 1, 0);
    y.setLink(0, 1, 1);
    Check.due("isValid(1, 0)", y.isValid(1, 0), false);
    y.setLink(0, 1, 0);
    y.send(1, 0);
    y.setLink(0, 1, 1);
    y.send(0, 1);
    Check.due("the request", y.step(), 0);
    Check.due("searching(1, 0)", y.searching(1, 0), 0);
  }

  private static void oldestPacketsGoFirst() {
    Check.part("the oldest packet goes first");
    MeshRouting x = new MeshRouting(3);
    x.send(0, 1);
    x.send(0, 1);
    x.send(0, 1);
    x.setLink(0, 1, 1);
    x.setLink(1, 2, 1);
    x.send(1, 2);
    x.run(1);
    Check.due("inFlight(3)", x.inFlight(3), 3);
    int arrived = 0;
    for (int left = 0; left < 20 && arrived < 3; left++) {
      if (x.step() == 3) {
        Check.due("packet " + arrived, x.stateOf(arrived), 2);
        arrived++;
        Check.due("packets(2)", x.packets(2), arrived);
      }
    }
    Check.due("arrived", arrived, 3);
  }

  /** The reply of a neighbour makes the route to it valid, and then tells that it has expired. */
  private static void foundRouteIsLostAgain() {
    Check.part("a route that is found and lost in one message");
    MeshRouting x = new MeshRouting(2);
    x.setLink(0, 1, 9);
    x.setParameter(0, 9);
    for (int packet = 0; packet < 4; packet++) {
      x.send(0, 1);
    }
    x.run(18);
    Check.due("isValid(0, 1), whose expiry is 18", x.isValid(0, 1), false);
    Check.due("expiry(0, 1)", x.expiry(0, 1), 18);
    Check.due("searching(0, 1): a new search", x.searching(0, 1), 1);
    Check.due("timeout(0, 1)", x.timeout(0, 1), 18 + 40);
    Check.due("sent(0)", x.sent(0), 2);
    Check.due("buffered(0, 1)", x.buffered(0, 1), 4);
    Check.due("packets(0)", x.packets(0), 4);
    x.run(18);
    Check.due("isValid(0, 1): now the number is not greater", x.isValid(0, 1), true);
    Check.due("inFlight(3)", x.inFlight(3), 4);
    x.run(9);
    Check.due("packets(2)", x.packets(2), 4);
  }

  /** 0 - 1 - 2: the same in a repair at 1 for a packet from 0. */
  private static MeshRouting repairedInVain() {
    MeshRouting x = Check.mesh(4, 0, 1, 1, 2);
    x.setParameter(1, 2);
    x.send(0, 2);
    x.run(6);
    x.send(0, 2);
    x.setLink(1, 2, 0);
    // Two asks that nobody hears make the number of 2 greater than 1 knows it to be.
    x.send(2, 3);
    x.send(2, 0);
    x.setLink(1, 2, 9);
    x.run(1);
    Check.due("searching(1, 2)", x.searching(1, 2), 2);
    Check.due("timeout(1, 2): range 3", x.timeout(1, 2), 7 + 80);
    x.setParameter(0, 9);
    x.run(17);
    Check.due("time()", x.time(), 24);
    Check.due("inFlight(1)", x.inFlight(1), 1);
    return x;
  }

  private static void foundRouteIsLostOnTheWay() {
    Check.part("a repair in vain, repairs on");
    MeshRouting x = repairedInVain();
    x.run(1);
    Check.due("sequence(1, 2)", x.sequence(1, 2), 2);
    Check.due("isValid(1, 2)", x.isValid(1, 2), false);
    Check.due("searching(1, 2)", x.searching(1, 2), 2);
    Check.due("timeout(1, 2)", x.timeout(1, 2), 25 + 80);
    Check.due("buffered(1, 2)", x.buffered(1, 2), 1);
    Check.part("a repair in vain, repairs off");
    MeshRouting y = repairedInVain();
    int errors = y.sent(2);
    y.setParameter(7, 0);
    y.run(1);
    Check.due("whyDropped(1, 1)", y.whyDropped(1, 1), 12);
    Check.due("nodeOf(1)", y.nodeOf(1), 1);
    Check.due("endOf(1)", y.endOf(1), 25);
    Check.due("searching(1, 2)", y.searching(1, 2), 0);
    Check.due("sent(2): to the node from which it had come", y.sent(2), errors + 1);
    y.setLink(0, 1, 0);
    Check.due("inFlight(2): on the link to 0", y.inFlight(2), 0);
    Check.part("a repair in vain, the link back is down");
    MeshRouting z = repairedInVain();
    errors = z.sent(2);
    z.setParameter(7, 0);
    z.setLink(0, 1, 0);
    z.run(1);
    Check.due("whyDropped(1, 1)", z.whyDropped(1, 1), 12);
    Check.due("sent(2)", z.sent(2), errors);
  }

  /** What 0 has found is no business of 1, whose packet waits although repairs are off now. */
  private static void foundOnlyOnce() {
    Check.part("a route that another node has found");
    MeshRouting x = PacketsTest.chainAt9();
    x.send(0, 3);
    x.setLink(1, 2, 0);
    x.run(1);
    Check.due("searching(1, 3)", x.searching(1, 3), 2);
    x.setParameter(7, 0);
    x.send(0, 1);
    x.run(1);
    Check.due("stateOf(2)", x.stateOf(2), 2);
    Check.due("stateOf(1)", x.stateOf(1), 0);
    Check.due("searching(1, 3)", x.searching(1, 3), 2);
  }

  private static void heldUntilItIsFound() {
    Check.part("packets for each destination stay in their buffer while other messages arrive");
    for (int goal = 0; goal < 4; goal++) {
      // A chain that ends at the goal; the node before the broken link repairs.
      int origin = (goal + 1) % 4;
      int middle = (goal + 2) % 4;
      int before = (goal + 3) % 4;
      MeshRouting x = Check.mesh(4, origin, middle, middle, before, before, goal);
      x.setParameter(1, 3);
      x.send(origin, goal);
      x.run(9);
      x.send(origin, goal);
      x.setLink(before, goal, 0);
      x.run(2);
      Check.due("searching() for " + goal, x.searching(before, goal), 2);
      x.setParameter(7, 0);
      x.send(middle, before);
      x.run(1);
      Check.due("stateOf(2)", x.stateOf(2), 2);
      Check.due("stateOf(1)", x.stateOf(1), 0);
      Check.due("buffered() for " + goal, x.buffered(before, goal), 1);
      Check.due("searching() for " + goal, x.searching(before, goal), 2);
    }
  }

  private static void timeoutsInOrder() {
    Check.part("timeouts of the same time");
    MeshRouting x = new MeshRouting(4);
    x.send(2, 0);
    x.send(1, 3);
    x.send(1, 0);
    x.send(0, 3);
    int[][] order = {{0, 3}, {1, 0}, {1, 3}, {2, 0}};
    for (int k = 0; k < order.length; k++) {
      for (int m = 0; m < order.length; m++) {
        Check.due("timeout(" + order[m][0] + ", " + order[m][1] + ") after " + k,
            x.timeout(order[m][0], order[m][1]), m < k ? 120 : 40);
      }
      Check.due("step()", x.step(), 4);
      Check.due("time()", x.time(), 40);
    }
    Check.due("nextEvent()", x.nextEvent(), 120);
  }

  private static void arrivalsBeforeTimeouts() {
    Check.part("an arrival and a timeout of the same time");
    MeshRouting x = new MeshRouting(3);
    x.setLink(0, 1, 2);
    x.setParameter(6, 1);
    x.send(0, 2);
    Check.due("timeout(0, 2)", x.timeout(0, 2), 2);
    Check.due("step()", x.step(), 0);
    Check.due("step()", x.step(), 4);
    Check.due("time()", x.time(), 2);
    MeshRouting y = Check.mesh(2, 0, 1);
    y.setParameter(6, 1);
    y.send(0, 1);
    Check.due("timeout(0, 1)", y.timeout(0, 1), 2);
    Check.due("run(3): the reply just comes in time", y.run(3), 3);
    Check.due("stateOf(0)", y.stateOf(0), 2);
    Check.due("sent(0)", y.sent(0), 1);
    Check.part("arrivals of the same time");
    MeshRouting z = Check.mesh(4, 0, 1, 2, 3);
    z.setLink(2, 3, 2);
    z.send(2, 3);
    z.run(1);
    z.send(0, 1);
    Check.due("step()", z.step(), 0);
    Check.due("the message sent first", z.isValid(3, 2), true);
    Check.due("the message sent last", z.isValid(1, 0), false);
    Check.due("step()", z.step(), 0);
    Check.due("the message sent last", z.isValid(1, 0), true);
    Check.due("time()", z.time(), 2);
  }
}
