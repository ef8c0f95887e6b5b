/** Promises 1 to 11: a new object, links, parameters, packets and time. */
public final class LinksAndTimeTest {
  private static final int LEAST = Integer.MIN_VALUE;
  private static final int MOST = Integer.MAX_VALUE;

  public static void main(String[] args) {
    newObject();
    setLink();
    linkThatIsUpGetsAnotherDelay();
    linkGoesDown();
    othersOfTheSameTimeStay();
    link();
    setParameter();
    whatWasSetBeforeStays();
    send();
    sendIsFull();
    step();
    run();
    timeAndNextEvent();
    inFlightAndSent();
    Check.end("LinksAndTimeTest");
  }

  private static void newObject() {
    Check.part("promise 1");
    int[][] sizes = {{LEAST, 2}, {-1, 2}, {0, 2}, {1, 2}, {2, 2}, {3, 3}, {9, 9}, {10, 10}, {11, 10},
        {MOST, 10}};
    for (int[] size : sizes) {
      MeshRouting x = new MeshRouting(size[0]);
      int last = size[1] - 1;
      Check.due("last node of " + size[0], x.sequence(last, 0), -2);
      Check.bounds(x, "node behind the last of " + size[0], () -> x.sequence(last + 1, 0));
      Check.due("time()", x.time(), 0);
      Check.due("nextEvent()", x.nextEvent(), -1);
      for (int a = 0; a < size[1]; a++) {
        Check.due("sequence(" + a + ", " + a + ")", x.sequence(a, a), 0);
        for (int b = 0; b < size[1]; b++) {
          Check.due("link(" + a + ", " + b + ")", x.link(a, b), 0);
          Check.due("distance(" + a + ", " + b + ")", x.distance(a, b), a == b ? 0 : -1);
        }
      }
      for (int kind = 0; kind < 4; kind++) {
        Check.due("sent(" + kind + ")", x.sent(kind), 0);
        Check.due("inFlight(" + kind + ")", x.inFlight(kind), 0);
        Check.due("packets(" + kind + ")", x.packets(kind), 0);
      }
    }
  }

  private static void setLink() {
    Check.part("promise 2");
    MeshRouting x = new MeshRouting(3);
    Check.due("setLink(2, 0, 9)", x.setLink(2, 0, 9), 0);
    Check.due("link(0, 2)", x.link(0, 2), 9);
    Check.due("link(2, 0)", x.link(2, 0), 9);
    Check.due("setLink(0, 2, 1)", x.setLink(0, 2, 1), 9);
    Check.due("setLink(0, 2, 1) again", x.setLink(0, 2, 1), 1);
    Check.due("setLink(2, 0, 0)", x.setLink(2, 0, 0), 1);
    Check.due("setLink(2, 0, 0) again", x.setLink(2, 0, 0), 0);
    Check.due("link(0, 1) untouched", x.link(0, 1), 0);
    int[] odd = {-1, 3, LEAST, MOST};
    for (int node : odd) {
      Check.bounds(x, "setLink(" + node + ", 0, 1)", () -> x.setLink(node, 0, 1));
      Check.bounds(x, "setLink(0, " + node + ", 1)", () -> x.setLink(0, node, 1));
      Check.bounds(x, "the node comes first", () -> x.setLink(node, node, 10));
    }
    Check.argument(x, "setLink(1, 1, 1)", () -> x.setLink(1, 1, 1));
    Check.argument(x, "setLink(1, 1, 0)", () -> x.setLink(1, 1, 0));
    for (int delay : new int[] {-1, 10, LEAST, MOST}) {
      Check.argument(x, "setLink(0, 1, " + delay + ")", () -> x.setLink(0, 1, delay));
    }
    Check.due("link(0, 1) after all this", x.link(0, 1), 0);
  }

  private static void linkThatIsUpGetsAnotherDelay() {
    Check.part("promise 2, another delay");
    MeshRouting x = new MeshRouting(2);
    x.setLink(0, 1, 5);
    x.send(0, 1);
    Check.due("setLink(0, 1, 2)", x.setLink(0, 1, 2), 5);
    Check.due("the request arrives as before", x.nextEvent(), 5);
    Check.due("step()", x.step(), 0);
    Check.due("the reply takes the new delay", x.nextEvent(), 7);
    Check.due("isValid(1, 0) stays", x.isValid(1, 0), true);
    x.setLink(0, 1, 9);
    Check.due("isValid(1, 0) stays", x.isValid(1, 0), true);
    Check.due("step()", x.step(), 1);
    Check.due("time()", x.time(), 7);
    Check.due("the packet takes 9", x.nextEvent(), 16);
    x.setLink(0, 1, 1);
    x.send(0, 1);
    Check.due("a later packet comes first", x.nextEvent(), 8);
    Check.due("step()", x.step(), 3);
    Check.due("stateOf(1)", x.stateOf(1), 2);
    Check.due("stateOf(0)", x.stateOf(0), 1);
  }

  private static void linkGoesDown() {
    Check.part("promise 2, down");
    MeshRouting x = Check.mesh(3, 0, 1, 1, 2);
    x.setLink(0, 1, 4);
    x.send(0, 1);
    x.send(1, 0);
    x.send(1, 2);
    Check.due("inFlight(0)", x.inFlight(0), 5);
    Check.due("setLink(1, 0, 0)", x.setLink(1, 0, 0), 4);
    Check.due("only those on the link are lost", x.inFlight(0), 2);
    Check.due("sent(0) counts them", x.sent(0), 5);
    Check.due("run(10)", x.run(10), 4);
    Check.due("stateOf(2)", x.stateOf(2), 2);
    Check.due("stateOf(0)", x.stateOf(0), 0);
    Check.due("searching(0, 1) goes on", x.searching(0, 1), 1);
  }

  private static void othersOfTheSameTimeStay() {
    Check.part("promise 2, down, messages that arrive at one time");
    for (int lost = 1; lost <= 4; lost++) {
      MeshRouting x = Check.mesh(6, 0, 1, 0, 2, 0, 3, 0, 4);
      x.send(0, 5);
      x.setLink(0, lost, 0);
      Check.due("inFlight(0) without " + lost, x.inFlight(0), 3);
      // One more behind those that are left, on a new link.
      x.setLink(0, lost, 1);
      x.send(lost, 5);
      Check.due("inFlight(0) and one more", x.inFlight(0), 4);
      Check.due("run(1) without " + lost, x.run(1), 4);
      for (int node = 1; node <= 4; node++) {
        Check.due("isValid(" + node + ", 0)", x.isValid(node, 0), node != lost);
      }
      Check.due("isValid(0, " + lost + ")", x.isValid(0, lost), true);
      Check.due("inFlight(0) at the end", x.inFlight(0), 0);
    }
    MeshRouting y = Check.mesh(3, 0, 1);
    y.send(0, 2);
    y.send(1, 2);
    y.setLink(0, 1, 0);
    Check.due("inFlight(0): all are lost", y.inFlight(0), 0);
    Check.due("run(39)", y.run(39), 0);
  }

  private static void link() {
    Check.part("promise 3");
    MeshRouting x = new MeshRouting(4);
    x.setLink(1, 3, 7);
    Check.due("link(1, 3)", x.link(1, 3), 7);
    Check.due("link(3, 1)", x.link(3, 1), 7);
    Check.due("link(3, 3)", x.link(3, 3), 0);
    Check.due("link(0, 3)", x.link(0, 3), 0);
    for (int node : new int[] {-1, 4, LEAST, MOST}) {
      Check.bounds(x, "link(" + node + ", 0)", () -> x.link(node, 0));
      Check.bounds(x, "link(0, " + node + ")", () -> x.link(0, node));
      Check.bounds(x, "link(" + node + ", " + node + ")", () -> x.link(node, node));
    }
  }

  private static void setParameter() {
    Check.part("promise 4");
    int[] first = {60, 1, 2, 5, 10, 2, 20, 3};
    int[] least = {1, 1, 1, 1, 1, 1, 1, 0};
    int[] most = {1000, 10, 10, 10, 15, 3, 50, 10};
    MeshRouting x = new MeshRouting(2);
    for (int k = 0; k < 8; k++) {
      int parameter = k;
      Check.due("first value of " + k, x.setParameter(k, least[k]), first[k]);
      Check.due("least value of " + k, x.setParameter(k, most[k]), least[k]);
      for (int value : new int[] {least[k] - 1, most[k] + 1, LEAST, MOST}) {
        Check.argument(x, "setParameter(" + k + ", " + value + ")",
            () -> x.setParameter(parameter, value));
      }
      Check.due("greatest value of " + k, x.setParameter(k, first[k]), most[k]);
    }
    for (int parameter : new int[] {-1, 8, LEAST, MOST}) {
      Check.bounds(x, "setParameter(" + parameter + ", 1)", () -> x.setParameter(parameter, 1));
      Check.bounds(x, "the parameter comes first", () -> x.setParameter(parameter, -1));
    }
  }

  private static void whatWasSetBeforeStays() {
    Check.part("promise 4, what was set stays");
    MeshRouting x = Check.mesh(3, 0, 1);
    x.send(0, 2);
    x.run(1);
    x.setParameter(0, 10);
    x.setParameter(6, 1);
    Check.due("expiry(1, 0)", x.expiry(1, 0), 61);
    Check.due("timeout(0, 2)", x.timeout(0, 2), 40);
    x.run(39);
    Check.due("timeout(0, 2) with the new patience", x.timeout(0, 2), 44);
    x.run(1);
    Check.due("the new lifetime does not shorten the old entry", x.expiry(1, 0), 51);
  }

  private static void send() {
    Check.part("promise 5");
    MeshRouting x = Check.mesh(3, 0, 1);
    Check.due("send(0, 2)", x.send(0, 2), 0);
    Check.due("it is carried at once", x.buffered(0, 2), 1);
    Check.due("sent(0)", x.sent(0), 1);
    Check.due("send(2, 0)", x.send(2, 0), 1);
    Check.due("searching(2, 0) without a link", x.searching(2, 0), 1);
    Check.due("time()", x.time(), 0);
    for (int node : new int[] {-1, 3, LEAST, MOST}) {
      Check.bounds(x, "send(" + node + ", 0)", () -> x.send(node, 0));
      Check.bounds(x, "send(0, " + node + ")", () -> x.send(0, node));
      Check.bounds(x, "the node comes first", () -> x.send(node, node));
    }
    Check.argument(x, "send(1, 1)", () -> x.send(1, 1));
    Check.due("the next number", x.send(1, 0), 2);
  }

  private static void sendIsFull() {
    Check.part("promise 5, 200 packets");
    MeshRouting x = Check.mesh(2, 0, 1);
    for (int packet = 0; packet < 200; packet++) {
      Check.due("send " + packet, x.send(packet % 2, 1 - packet % 2), packet);
    }
    Check.state(x, "send(0, 1) of packet 200", () -> x.send(0, 1));
    Check.argument(x, "being the same comes first", () -> x.send(1, 1));
    Check.bounds(x, "the node comes first of all", () -> x.send(2, 2));
    Check.due("stateOf(199)", x.stateOf(199), 0);
    Check.bounds(x, "stateOf(200)", () -> x.stateOf(200));
    Check.due("damage(0, 1, 0)", x.damage(0, 1, 0), 0);
    x.run(3);
    Check.due("packets(2)", x.packets(2), 8);
    Check.due("totalHops()", x.totalHops(), 8);
    Check.due("setLink(0, 1, 0)", x.setLink(0, 1, 0), 1);
    Check.due("nodeOf(199)", x.nodeOf(199), 0);
    Check.due("endOf(199): it went when the request of 0 came", x.endOf(199), 2);
    Check.due("packets(3), for the buffers are full", x.packets(3), 192);
  }

  private static void step() {
    Check.part("promise 6");
    MeshRouting x = Check.mesh(3, 0, 1, 1, 2);
    Check.due("no event", x.step(), -1);
    Check.due("nothing changes", x.time(), 0);
    x.setParameter(1, 2);
    x.send(0, 2);
    // 0 asks 1, who asks 0 and 2; 2 answers; the packet goes.
    int[] kinds = {0, 0, 0, 1, 1, 3, 3};
    int[] times = {1, 2, 2, 3, 4, 5, 6};
    for (int k = 0; k < kinds.length; k++) {
      Check.due("step " + k, x.step(), kinds[k]);
      Check.due("time() after step " + k, x.time(), times[k]);
    }
    Check.due("stateOf(0)", x.stateOf(0), 2);
    Check.due("step() at the end", x.step(), -1);
    Check.due("time() at the end", x.time(), 6);
    x.send(0, 2);
    x.setLink(1, 2, 0);
    Check.due("the packet was sent before the error", x.step(), 3);
    Check.due("an error", x.step(), 2);
    MeshRouting y = new MeshRouting(2);
    y.send(0, 1);
    Check.due("a timeout", y.step(), 4);
    Check.due("its time", y.time(), 40);
  }

  private static void run() {
    Check.part("promise 7");
    MeshRouting x = Check.mesh(2, 0, 1);
    Check.due("run(0)", x.run(0), 0);
    Check.due("run(100000)", x.run(100000), 0);
    Check.due("time()", x.time(), 100000);
    x.send(0, 1);
    Check.due("run(0) with an event later", x.run(0), 0);
    Check.due("run(1): the event at the very end happens", x.run(1), 1);
    Check.due("run(2): reply and packet", x.run(2), 2);
    Check.due("time()", x.time(), 100003);
    Check.due("stateOf(0)", x.stateOf(0), 2);
    Check.due("endOf(0)", x.endOf(0), 100003);
    for (int units : new int[] {-1, 100001, LEAST, MOST}) {
      Check.argument(x, "run(" + units + ")", () -> x.run(units));
    }
  }

  private static void timeAndNextEvent() {
    Check.part("promises 8 and 9");
    MeshRouting x = new MeshRouting(3);
    x.setLink(0, 1, 9);
    Check.due("nextEvent() of none", x.nextEvent(), -1);
    x.run(5);
    Check.due("time() without events", x.time(), 5);
    x.send(0, 2);
    Check.due("nextEvent() is an arrival", x.nextEvent(), 14);
    x.setParameter(6, 1);
    x.send(1, 2);
    Check.due("nextEvent() is a timeout", x.nextEvent(), 7);
    Check.due("time() stays", x.time(), 5);
    Check.due("step()", x.step(), 4);
    Check.due("time() of the event", x.time(), 7);
    x.run(10);
    Check.due("time() at the end of run", x.time(), 17);
    Check.due("step()", x.step(), 0);
    Check.due("time() goes on to the event", x.time(), 20);
  }

  private static void inFlightAndSent() {
    Check.part("promises 10 and 11");
    MeshRouting x = Check.mesh(3, 0, 1, 1, 2);
    x.setParameter(1, 2);
    x.send(0, 2);
    int[][] onLinks = {{1, 0, 0, 0}, {2, 0, 0, 0}, {1, 0, 0, 0}, {0, 1, 0, 0}, {0, 1, 0, 0},
        {0, 0, 0, 1}, {0, 0, 0, 1}, {0, 0, 0, 0}};
    int[][] ever = {{1, 0, 0, 0}, {3, 0, 0, 0}, {3, 0, 0, 0}, {3, 1, 0, 0}, {3, 2, 0, 0},
        {3, 2, 0, 1}, {3, 2, 0, 2}, {3, 2, 0, 2}};
    for (int k = 0; k < onLinks.length; k++) {
      for (int kind = 0; kind < 4; kind++) {
        Check.due("inFlight(" + kind + ") after " + k, x.inFlight(kind), onLinks[k][kind]);
        Check.due("sent(" + kind + ") after " + k, x.sent(kind), ever[k][kind]);
      }
      x.step();
    }
    x.setLink(1, 2, 0);
    Check.due("inFlight(2): the user is told", x.inFlight(2), 1);
    Check.due("sent(2)", x.sent(2), 1);
    x.setLink(0, 1, 0);
    Check.due("inFlight(2): it is lost", x.inFlight(2), 0);
    Check.due("sent(2) counts what was lost", x.sent(2), 1);
    for (int kind : new int[] {-1, 4, LEAST, MOST}) {
      Check.bounds(x, "inFlight(" + kind + ")", () -> x.inFlight(kind));
      Check.bounds(x, "sent(" + kind + ")", () -> x.sent(kind));
    }
  }
}
