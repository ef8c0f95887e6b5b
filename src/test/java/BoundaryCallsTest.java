/**
 * The sentences of promises 1 to 35 that name a boundary and no exception: the least and the
 * greatest value of every argument, nothing there, full, and the moment itself. The exceptions are
 * in BoundaryRefusalsTest.
 */
public final class BoundaryCallsTest {
  public static void main(String[] args) {
    lessThanTwoMoreThanTen();
    everyDelayAfterEveryDelay();
    arriveAsBefore();
    previousValues();
    settingParametersChangesNothingElse();
    carriedAtOnce();
    stepAnswersTheKind();
    runOfNothing();
    runUpToTheEnd();
    runTakesWhatComesAbout();
    nextEventIsNow();
    messagesThatWereLost();
    bothAreTheSame();
    entryThatIsNotValid();
    firstAndLastUser();
    packetsAtTheirEnd();
    countsOfAllPackets();
    followNineLinks();
    followAtTheExpiry();
    loopsToAnyDestination();
    distances();
    hopsOfDelivered();
    forecastAtEveryMoment();
    forecastOfTheFifth();
    damageAtEveryMoment();
    damageOfALinkThatIsDown();
    damageOfAll();
    keepInPlaceOfTheLast();
    restoreAfterTheLastPacket();
    restoreTwice();
    restoreBetweenArrivals();
    keepEverything();
    fingerprintOfEverySize();
    Check.end("BoundaryCallsTest");
  }

  // ---- promises 1 to 4

  private static void lessThanTwoMoreThanTen() {
    Check.part("\"less than 2 means 2, .. greater than 10 means 10\"");
    int[] asked = {Integer.MIN_VALUE, -10, -1, 0, 1, 2, 3, 9, 10, 11, 12, 100, Integer.MAX_VALUE};
    int[] made = {2, 2, 2, 2, 2, 2, 3, 9, 10, 10, 10, 10, 10};
    for (int k = 0; k < asked.length; k++) {
      MeshRouting x = new MeshRouting(asked[k]);
      int last = made[k] - 1;
      Check.due("setLink() of the last of " + asked[k], x.setLink(0, last, 9), 0);
      Check.bounds(x, "setLink() behind the last of " + asked[k], () -> x.setLink(0, last + 1, 9));
      Check.due("send()", x.send(last, 0), 0);
      Check.due("run(27)", x.run(27), 3);
      Check.due("stateOf(0)", x.stateOf(0), 2);
      Check.due("fingerprint()", new MeshRouting(asked[k]).fingerprint(),
          fingerprintOfNew(made[k]));
    }
  }

  private static void everyDelayAfterEveryDelay() {
    Check.part("\"0 for down, or 1 to 9\", \"returns the previous delay, 0 if the link was down\"");
    for (int before = 0; before <= 9; before++) {
      MeshRouting x = new MeshRouting(3);
      for (int delay = 0; delay <= 9; delay++) {
        String name = " after " + before;
        Check.due("setLink(1, 2, " + before + ")", x.setLink(1, 2, before), 0);
        Check.due("setLink(2, 1, " + delay + ")" + name, x.setLink(2, 1, delay), before);
        Check.due("link(1, 2)" + name, x.link(1, 2), delay);
        Check.due("link(2, 1)" + name, x.link(2, 1), delay);
        Check.due("distance(1, 2)" + name, x.distance(1, 2), delay == 0 ? -1 : 1);
        Check.due("setLink(1, 2, 0)" + name, x.setLink(1, 2, 0), delay);
      }
      for (int node = 0; node < 3; node++) {
        Check.due("link() of the same", x.link(node, node), 0);
        Check.due("link(0, 1), which was never up", x.link(0, 1), 0);
      }
    }
  }

  private static void arriveAsBefore() {
    Check.part("\"stays up; messages that are on it arrive as before\"");
    for (int before = 1; before <= 9; before++) {
      for (int after = 1; after <= 9; after++) {
        MeshRouting x = new MeshRouting(3);
        x.setLink(0, 1, before);
        x.send(0, 2);
        Check.due("setLink()", x.setLink(0, 1, after), before);
        Check.due("inFlight(0)", x.inFlight(0), 1);
        Check.due("nextEvent()", x.nextEvent(), before);
        Check.due("run()", x.run(before), 1);
        Check.due("isValid(1, 0)", x.isValid(1, 0), true);
        x.setLink(0, 1, before);
        Check.due("isValid(1, 0): no break", x.isValid(1, 0), true);
        Check.due("sent(2)", x.sent(2), 0);
      }
    }
  }

  private static void previousValues() {
    Check.part("\"0 lifetime (1 to 1000, initially 60)\" and so on: every value is good");
    int[] first = {60, 1, 2, 5, 10, 2, 20, 3};
    int[] least = {1, 1, 1, 1, 1, 1, 1, 0};
    int[] most = {1000, 10, 10, 10, 15, 3, 50, 10};
    for (int parameter = 0; parameter < 8; parameter++) {
      MeshRouting x = new MeshRouting(2);
      int previous = first[parameter];
      for (int value = least[parameter]; value <= Math.min(most[parameter], 100); value++) {
        Check.due("setParameter(" + parameter + ", " + value + ")",
            x.setParameter(parameter, value), previous);
        previous = value;
      }
      Check.due("the greatest", x.setParameter(parameter, most[parameter]), previous);
      Check.due("the least", x.setParameter(parameter, least[parameter]), most[parameter]);
      Check.due("the same again", x.setParameter(parameter, least[parameter]), least[parameter]);
      for (int other = 0; other < 8; other++) {
        if (other != parameter) {
          Check.due("parameter " + other + " beside " + parameter,
              x.setParameter(other, first[other]), first[other]);
        }
      }
    }
  }

  private static void settingParametersChangesNothingElse() {
    Check.part("\"what has been set by it before stays\"");
    int[] most = {1000, 10, 10, 10, 15, 3, 50, 10};
    for (int kind = Twins.BUSY; kind <= Twins.FULL; kind++) {
      MeshRouting x = Twins.made(kind);
      MeshRouting y = Twins.made(kind);
      for (int parameter = 0; parameter < 8; parameter++) {
        x.setParameter(parameter, most[parameter]);
        x.setParameter(parameter, 1);
      }
      Check.due("fingerprint()", x.fingerprint(), y.fingerprint());
      for (int k = 0; k < 16; k++) {
        Check.due("expiry", x.expiry(k / 4, k % 4), y.expiry(k / 4, k % 4));
        Check.due("timeout", x.timeout(k / 4, k % 4), y.timeout(k / 4, k % 4));
      }
    }
  }

  // ---- promises 5 to 11

  private static void carriedAtOnce() {
    Check.part("\"is carried at its origin at once\"");
    MeshRouting x = PacketsTest.chainAt9();
    Check.due("send(0, 3)", x.send(0, 3), 1);
    Check.due("stateOf(1) with a route", x.stateOf(1), 1);
    Check.due("hopsOf(1)", x.hopsOf(1), 1);
    Check.due("time()", x.time(), 9);
    Check.due("send(4, 3)", x.send(4, 3), 2);
    Check.due("stateOf(2) without one", x.stateOf(2), 0);
    Check.due("searching(4, 3)", x.searching(4, 3), 1);
    Check.due("time()", x.time(), 9);
  }

  private static void stepAnswersTheKind() {
    Check.part("\"the kind of the message that arrived, 4 for a timeout, -1\"");
    MeshRouting x = Check.mesh(3, 0, 1);
    x.setParameter(3, 1);
    x.setParameter(4, 1);
    x.setParameter(5, 1);
    Check.due("nothing", x.step(), -1);
    x.send(0, 1);
    int[] kinds = {0, 1, 3};
    for (int kind : kinds) {
      Check.due("step()", x.step(), kind);
    }
    Check.due("nothing", x.step(), -1);
    x.setParameter(7, 0);
    x.setLink(1, 2, 1);
    x.send(0, 2);
    for (int kind : new int[] {0, 4, 0, 4}) {
      Check.due("step() of a search", x.step(), kind);
    }
    Check.due("nothing", x.step(), -1);
    Check.due("whyDropped(1, 1)", x.whyDropped(1, 1), 11);
    x.setParameter(1, 2);
    x.send(0, 2);
    for (int kind : new int[] {0, 0, 0, 1, 1, 3}) {
      Check.due("step()", x.step(), kind);
    }
    x.setLink(1, 2, 0);
    Check.due("an error", x.step(), 2);
    Check.due("nothing", x.step(), -1);
    Check.due("whyDropped(2, 1)", x.whyDropped(2, 1), 22);
  }

  private static void runOfNothing() {
    Check.part("\"all events up to the present time plus units\": 0, with one more event now");
    MeshRouting x = Check.mesh(4, 0, 1, 0, 2, 0, 3);
    x.send(0, 1);
    Check.due("run(0) too early", x.run(0), 0);
    Check.due("step()", x.step(), 0);
    Check.due("time()", x.time(), 1);
    Check.due("run(0): two are left", x.run(0), 2);
    Check.due("time()", x.time(), 1);
    Check.due("run(0): none is left", x.run(0), 0);
    MeshRouting y = new MeshRouting(3);
    y.send(0, 1);
    y.send(1, 2);
    Check.due("step(), a timeout", y.step(), 4);
    Check.due("run(0): the other timeout", y.run(0), 1);
    Check.due("time()", y.time(), 40);
  }

  private static void runUpToTheEnd() {
    Check.part("\"all events up to the present time plus units\": just at it, and one unit later");
    for (int delay = 1; delay <= 9; delay++) {
      for (int units = 0; units <= 20; units++) {
        MeshRouting x = new MeshRouting(2);
        x.setLink(0, 1, delay);
        x.run(3);
        x.send(0, 1);
        int want = (units >= delay ? 1 : 0) + (units >= 2 * delay ? 1 : 0)
            + (units >= 3 * delay ? 1 : 0);
        Check.due("run(" + units + ")", x.run(units), want);
        Check.due("time()", x.time(), 3 + units);
      }
    }
    Check.part("\"0 to 100000\"");
    MeshRouting x = new MeshRouting(2);
    Check.due("run(100000)", x.run(100000), 0);
    Check.due("run(99999)", x.run(99999), 0);
    x.send(0, 1);
    Check.due("run(1)", x.run(1), 0);
    Check.due("timeout(0, 1)", x.timeout(0, 1), 199999 + 40);
    Check.due("run(100000): five timeouts", x.run(100000), 5);
    Check.due("time()", x.time(), 300000);
    for (int k = 0; k < 500; k++) {
      x.run(100000);
    }
    Check.due("time() at the end", x.time(), 50300000);
  }

  private static void runTakesWhatComesAbout() {
    Check.part("\"how many events happened\": those that come about in it too");
    MeshRouting x = Check.mesh(4, 0, 1, 1, 2, 2, 3);
    x.setParameter(1, 3);
    x.send(0, 3);
    // Requests 1, 2 and 2, replies 3, packets 3.
    Check.due("run(9)", x.run(9), 11);
    Check.due("stateOf(0)", x.stateOf(0), 2);
    Check.due("run(0)", x.run(0), 0);
  }

  private static void nextEventIsNow() {
    Check.part("\"the time of the next event\": the present time, if one more is due now");
    MeshRouting x = Check.mesh(3, 0, 1, 0, 2);
    x.setParameter(6, 1);
    Check.due("nextEvent() of none", x.nextEvent(), -1);
    x.send(0, 1);
    Check.due("nextEvent()", x.nextEvent(), 1);
    x.step();
    Check.due("time()", x.time(), 1);
    Check.due("nextEvent()", x.nextEvent(), 1);
    x.step();
    Check.due("nextEvent()", x.nextEvent(), 2);
    x.run(2);
    Check.due("stateOf(0)", x.stateOf(0), 2);
    Check.due("nextEvent() of none", x.nextEvent(), -1);
    Check.due("time()", x.time(), 3);
    // An arrival sooner than, at, and later than the timeout, which comes at 2.
    for (int delay = 1; delay <= 3; delay++) {
      MeshRouting y = new MeshRouting(3);
      y.setLink(0, 1, delay);
      y.setParameter(6, 1);
      y.send(0, 2);
      Check.due("nextEvent() with delay " + delay, y.nextEvent(), Math.min(delay, 2));
      Check.due("step() with delay " + delay, y.step(), delay <= 2 ? 0 : 4);
    }
  }

  private static void messagesThatWereLost() {
    Check.part("\"that are on links\", \"those that were lost included\"");
    MeshRouting x = Twins.made(Twins.FULL);
    int[] sent = new int[4];
    for (int kind = 0; kind < 4; kind++) {
      sent[kind] = x.sent(kind);
      Check.due("inFlight(" + kind + ") > 0", x.inFlight(kind) > 0, true);
    }
    int errors = x.sent(2);
    for (int a = 0; a < 4; a++) {
      for (int b = a + 1; b < 4; b++) {
        x.setLink(a, b, 0);
      }
    }
    for (int kind = 0; kind < 4; kind++) {
      Check.due("inFlight(" + kind + ") without links", x.inFlight(kind), 0);
      Check.due("sent(" + kind + ")", kind == 2 ? x.sent(2) >= errors : x.sent(kind) == sent[kind],
          true);
    }
    Check.due("packets(1)", x.packets(1), 0);
  }

  // ---- promises 12 to 20

  private static void bothAreTheSame() {
    Check.part("\"false if both are the same\", and what is answered of a node itself");
    for (int node = 0; node < 4; node++) {
      MeshRouting x = Twins.made(Twins.BUSY);
      Check.due("isValid()", x.isValid(node, node), false);
      Check.due("nextNode()", x.nextNode(node, node), -1);
      Check.due("hops()", x.hops(node, node), -1);
      Check.due("sequence() >= 0", x.sequence(node, node) >= 0, true);
      Check.due("expiry()", x.expiry(node, node), -1);
      Check.due("users()", x.users(node, node), 0);
      Check.due("searching()", x.searching(node, node), 0);
      Check.due("timeout()", x.timeout(node, node), -1);
      Check.due("buffered()", x.buffered(node, node), 0);
      Check.due("follow()", x.follow(node, node), 0);
      Check.due("distance()", x.distance(node, node), 0);
    }
  }

  private static void entryThatIsNotValid() {
    Check.part("\"whether the route is valid or not\", in the last unit and at the expiry");
    MeshRouting x = PacketsTest.chainAt9();
    int expiry = x.expiry(1, 3);
    for (int late = -1; late <= 1; late++) {
      x.run(expiry + late - x.time());
      Check.due("isValid(1, 3)", x.isValid(1, 3), late < 0);
      Check.due("nextNode(1, 3)", x.nextNode(1, 3), 2);
      Check.due("hops(1, 3)", x.hops(1, 3), 2);
      Check.due("sequence(1, 3)", x.sequence(1, 3), 0);
      Check.due("sequence(1, 2), not known", x.sequence(1, 2), -1);
      Check.due("sequence(1, 4), no entry", x.sequence(1, 4), -2);
      Check.due("expiry(1, 3)", x.expiry(1, 3), expiry);
      Check.due("users(1, 3)", x.users(1, 3), 1);
    }
  }

  private static void firstAndLastUser() {
    Check.part("\"bit k for node k\": 0, 9, and all of them");
    MeshRouting x = new MeshRouting(10);
    x.setLink(4, 5, 1);
    x.setParameter(1, 2);
    x.setParameter(0, 1000);
    x.send(4, 5);
    x.run(3);
    Check.due("users(4, 5)", x.users(4, 5), 0);
    int want = 0;
    for (int node : new int[] {0, 9, 1, 8, 2, 7, 3, 6}) {
      x.setLink(4, node, 1);
      x.send(node, 5);
      x.run(4);
      want |= 1 << node;
      Check.due("users(4, 5) with " + node, x.users(4, 5), want);
    }
    Check.due("packets(2)", x.packets(2), 9);
    x.setLink(4, 5, 0);
    Check.due("users(4, 5) behind the break", x.users(4, 5), 0);
    Check.due("inFlight(2)", x.inFlight(2), 8);
  }

  // ---- promises 21 to 26

  private static void packetsAtTheirEnd() {
    Check.part("\"the time; -1 if neither has happened\", \"0 if the packet was not dropped\"");
    MeshRouting x = Check.mesh(2, 0, 1);
    x.send(0, 1);
    int[] states = {0, 0, 1, 2};
    for (int now = 0; now < states.length; now++) {
      Check.due("stateOf(0) at " + now, x.stateOf(0), states[now]);
      Check.due("nodeOf(0) at " + now, x.nodeOf(0), now < 2 ? 0 : 1);
      Check.due("hopsOf(0) at " + now, x.hopsOf(0), now < 2 ? 0 : 1);
      Check.due("endOf(0) at " + now, x.endOf(0), now < 3 ? -1 : 3);
      Check.due("whyDropped(0, 0) at " + now, x.whyDropped(0, 0), 0);
      Check.due("whyDropped(0, 1) at " + now, x.whyDropped(0, 1), 0);
      x.run(1);
    }
    Check.part("an end at time 0");
    MeshRouting y = new MeshRouting(2);
    for (int packet = 0; packet < 5; packet++) {
      y.send(1, 0);
    }
    Check.due("endOf(0)", y.endOf(0), 0);
    Check.due("whyDropped(0, 0)", y.whyDropped(0, 0), 2);
    Check.due("whyDropped(0, 1)", y.whyDropped(0, 1), 21);
    Check.due("nodeOf(0)", y.nodeOf(0), 1);
    Check.due("hopsOf(0)", y.hopsOf(0), 0);
    Check.due("endOf(1)", y.endOf(1), -1);
  }

  private static void countsOfAllPackets() {
    Check.part("\"counts the packets in a state\": none, and all 200");
    MeshRouting x = Check.mesh(2, 0, 1);
    x.setParameter(0, 1000);
    for (int state = 0; state < 4; state++) {
      Check.due("packets(" + state + ") of a new object", x.packets(state), 0);
    }
    x.send(0, 1);
    x.run(3);
    for (int packet = 1; packet < 200; packet++) {
      x.send(packet % 2, 1 - packet % 2);
    }
    Check.due("packets(1)", x.packets(1), 199);
    Check.due("inFlight(3)", x.inFlight(3), 199);
    Check.due("packets(2)", x.packets(2), 1);
    Check.due("run(1)", x.run(1), 199);
    Check.due("packets(2)", x.packets(2), 200);
    Check.due("totalHops()", x.totalHops(), 200);
    Check.due("sent(3)", x.sent(3), 200);
    Check.due("stateOf(199)", x.stateOf(199), 2);
    Check.due("endOf(199)", x.endOf(199), 4);
    Check.due("whyDropped(199, 1)", x.whyDropped(199, 1), 0);
    MeshRouting y = new MeshRouting(2);
    for (int packet = 0; packet < 200; packet++) {
      y.send(0, 1);
    }
    y.run(10000);
    Check.due("packets(3)", y.packets(3), 200);
    Check.due("whyDropped(195, 1)", y.whyDropped(195, 1), 21);
    Check.due("whyDropped(196, 1)", y.whyDropped(196, 1), 11);
    Check.due("whyDropped(199, 1)", y.whyDropped(199, 1), 11);
    Check.due("totalHops()", y.totalHops(), 0);
  }

  // ---- promises 27 to 30

  /** A chain of ten nodes, in which all routes to the end are valid. */
  private static MeshRouting chainOfTen() {
    MeshRouting x = new MeshRouting(10);
    for (int node = 0; node < 9; node++) {
      x.setLink(node, node + 1, 1);
    }
    x.setParameter(1, 10);
    x.send(0, 9);
    x.run(27);
    Check.due("stateOf(0)", x.stateOf(0), 2);
    return x;
  }

  private static void followNineLinks() {
    Check.part("\"the number of links that were followed\": as many as there can be");
    MeshRouting x = chainOfTen();
    for (int node = 0; node < 10; node++) {
      Check.due("follow(" + node + ", 9)", x.follow(node, 9), 9 - node);
      Check.due("follow(" + node + ", 0)", x.follow(node, 0), node);
    }
    Check.due("loops()", x.loops(), 0);
    x.setLink(8, 9, 0);
    for (int node = 0; node < 10; node++) {
      Check.due("follow(" + node + ", 9) behind the break", x.follow(node, 9), node == 9 ? 0 : -1);
    }
    x.setLink(0, 1, 0);
    Check.due("follow(9, 0): the last link is missing", x.follow(9, 0), -1);
    Check.due("follow(9, 1)", x.follow(9, 1), -1);
  }

  private static void followAtTheExpiry() {
    Check.part("\"a node without a valid route\": the route expires just now");
    MeshRouting x = PacketsTest.chainAt9();
    int first = Math.min(x.expiry(0, 3), Math.min(x.expiry(1, 3), x.expiry(2, 3)));
    Check.due("expiry(0, 3)", x.expiry(0, 3), first);
    x.run(first - 1 - x.time());
    Check.due("follow(0, 3)", x.follow(0, 3), 3);
    x.run(1);
    Check.due("follow(0, 3)", x.follow(0, 3), -1);
    Check.due("follow(1, 3)", x.follow(1, 3), 2);
    x.run(1);
    Check.due("follow(1, 3)", x.follow(1, 3), -1);
    Check.due("follow(2, 3)", x.follow(2, 3), 1);
    x.run(1);
    Check.due("follow(2, 3)", x.follow(2, 3), -1);
    Check.due("follow(3, 3)", x.follow(3, 3), 0);
  }

  private static void loopsToAnyDestination() {
    Check.part("\"ordered pairs of different nodes for which follow() is -2\"");
    for (int goal : new int[] {0, 3}) {
      MeshRouting x = Loop.made(goal);
      Check.due("loops() before", x.loops(), 0);
      x.run(2);
      Check.due("follow(1, " + goal + ")", x.follow(1, goal), -2);
      Check.due("follow(2, " + goal + ")", x.follow(2, goal), -2);
      Check.due("follow(" + goal + ", " + goal + ")", x.follow(goal, goal), 0);
      Check.due("loops() to " + goal, x.loops(), 2);
      // A node beyond the loop comes into it.
      x.setLink(1, 9, 1);
      x.send(9, goal);
      x.run(2);
      Check.due("follow(9, " + goal + ")", x.follow(9, goal), -2);
      Check.due("loops()", x.loops(), 3);
      x.setLink(1, 2, 0);
      Check.due("follow(1, " + goal + ")", x.follow(1, goal), -1);
      Check.due("loops()", x.loops(), 0);
    }
  }

  private static void distances() {
    Check.part("\"0 if both are the same; -1 if there is no way\"");
    for (int nodes = 2; nodes <= 10; nodes++) {
      MeshRouting x = new MeshRouting(nodes);
      Check.due("distance() of the same", x.distance(nodes - 1, nodes - 1), 0);
      for (int node = 1; node < nodes; node++) {
        Check.due("distance(0, " + node + ") before", x.distance(0, node), -1);
        Check.due("distance(" + node + ", 0) before", x.distance(node, 0), -1);
        // The delay does not matter, nor does a route.
        x.setLink(node - 1, node, 9);
        Check.due("distance(0, " + node + ")", x.distance(0, node), node);
        Check.due("distance(" + node + ", 0)", x.distance(node, 0), node);
      }
      x.setLink(0, nodes - 1, 1);
      Check.due("distance() round a ring", x.distance(0, nodes - 1), 1);
      Check.due("distance() to the middle", x.distance(0, nodes / 2), nodes / 2);
    }
  }

  private static void hopsOfDelivered() {
    Check.part("\"over all packets that were delivered\": none, one that goes over 9 links");
    MeshRouting x = chainOfTen();
    Check.due("totalHops()", x.totalHops(), 9);
    x.send(0, 9);
    x.run(8);
    Check.due("hopsOf(1)", x.hopsOf(1), 9);
    Check.due("totalHops() in the last unit before", x.totalHops(), 9);
    x.run(1);
    Check.due("totalHops()", x.totalHops(), 18);
    x.send(0, 9);
    x.run(8);
    x.setLink(8, 9, 0);
    Check.due("hopsOf(2), which is lost", x.hopsOf(2), 9);
    Check.due("totalHops()", x.totalHops(), 18);
  }

  // ---- promises 31 and 32

  private static void forecastAtEveryMoment() {
    Check.part("forecast, \"all events up to the present time plus units\"");
    int[][] pairs = {{0, 3}, {3, 0}, {1, 3}, {2, 1}, {0, 2}};
    for (int[] pair : pairs) {
      MeshRouting x = Twins.made(Twins.BUSY);
      MeshRouting y = Twins.made(Twins.BUSY);
      int packet = y.send(pair[0], pair[1]);
      for (int units = 0; units <= 100; units++) {
        Check.due("forecast(" + pair[0] + ", " + pair[1] + ", " + units + ")",
            x.forecast(pair[0], pair[1], units), y.stateOf(packet));
        y.run(1);
      }
    }
    Check.part("\"0 to 100000\"");
    MeshRouting x = new MeshRouting(2);
    Check.due("forecast(0, 1, 0)", x.forecast(0, 1, 0), 0);
    Check.due("forecast(0, 1, 679)", x.forecast(0, 1, 679), 0);
    Check.due("forecast(0, 1, 680)", x.forecast(0, 1, 680), 3);
    Check.due("forecast(0, 1, 100000)", x.forecast(0, 1, 100000), 3);
    x.setLink(0, 1, 9);
    Check.due("forecast(0, 1, 17)", x.forecast(0, 1, 17), 0);
    Check.due("forecast(0, 1, 18)", x.forecast(0, 1, 18), 1);
    Check.due("forecast(0, 1, 26)", x.forecast(0, 1, 26), 1);
    Check.due("forecast(0, 1, 27)", x.forecast(0, 1, 27), 2);
    Check.due("forecast(1, 0, 100000)", x.forecast(1, 0, 100000), 2);
    Check.due("time()", x.time(), 0);
  }

  private static void forecastOfTheFifth() {
    Check.part("forecast into a full buffer, and of packet 199");
    MeshRouting x = new MeshRouting(2);
    for (int packet = 0; packet < 199; packet++) {
      Check.due("forecast(0, 1, 0)", x.forecast(0, 1, 0), 0);
      Check.due("send(0, 1)", x.send(0, 1), packet);
    }
    Check.due("packets(0)", x.packets(0), 4);
    Check.due("forecast(0, 1, 0), the last one", x.forecast(0, 1, 0), 0);
    Check.due("packets(0)", x.packets(0), 4);
    Check.due("packets(3)", x.packets(3), 195);
    Check.due("send(0, 1)", x.send(0, 1), 199);
    Check.due("forecast(0, 1, 0) of none", x.forecast(0, 1, 0), -1);
  }

  private static void damageAtEveryMoment() {
    Check.part("damage, \"all events up to the present time plus units\"");
    for (int k = 0; k < 16; k++) {
      int a = k / 4;
      int b = k % 4;
      if (a == b) {
        continue;
      }
      MeshRouting x = Twins.made(Twins.BUSY);
      MeshRouting y = Twins.made(Twins.BUSY);
      int now = x.packets(3);
      y.setLink(a, b, 0);
      for (int units = 0; units <= 150; units += units < 20 || units > 70 && units < 95 ? 1 : 5) {
        y.run(units - (y.time() - x.time()));
        Check.due("damage(" + a + ", " + b + ", " + units + ")", x.damage(a, b, units),
            y.packets(3) - now);
      }
    }
  }

  private static void damageOfALinkThatIsDown() {
    Check.part("\"0 if the link is down already and no more packets would be dropped\"");
    MeshRouting x = new MeshRouting(3);
    Check.due("damage(0, 1, 100000) without packets", x.damage(0, 1, 100000), 0);
    x.send(0, 1);
    Check.due("damage(0, 1, 679)", x.damage(0, 1, 679), 0);
    Check.due("damage(0, 1, 680): it is dropped all the same", x.damage(0, 1, 680), 1);
    x.setLink(0, 1, 1);
    Check.due("damage(1, 2, 100000): the next ask is heard", x.damage(1, 2, 100000), 0);
    Check.due("damage(0, 1, 100000): if that were down", x.damage(0, 1, 100000), 1);
    Check.due("link(0, 1)", x.link(0, 1), 1);
    x.run(1000);
    Check.due("stateOf(0)", x.stateOf(0), 2);
    Check.due("damage(0, 1, 100000), all are delivered", x.damage(0, 1, 100000), 0);
  }

  private static void damageOfAll() {
    Check.part("\"that are in buffers or on links\": 199 on the link, the dropped ones do not count");
    MeshRouting x = Check.mesh(2, 0, 1);
    x.send(0, 1);
    x.run(3);
    for (int packet = 1; packet < 200; packet++) {
      x.send(packet % 2, 1 - packet % 2);
    }
    Check.due("damage(0, 1, 0)", x.damage(0, 1, 0), 199);
    Check.due("damage(1, 0, 100000)", x.damage(1, 0, 100000), 199);
    Check.due("packets(1)", x.packets(1), 199);
    x.setLink(0, 1, 0);
    Check.due("damage(0, 1, 0) of what is dropped", x.damage(0, 1, 0), 0);
    Check.due("damage(0, 1, 100000)", x.damage(0, 1, 100000), 0);
  }

  // ---- promises 33 to 35

  private static void keepInPlaceOfTheLast() {
    Check.part("\"in place of what it kept\"");
    MeshRouting x = Check.mesh(2, 0, 1);
    for (int round = 0; round < 5; round++) {
      Check.due("keep()", x.keep(), 7 * round);
      x.send(0, 1);
      x.run(7);
      Check.due("restore()", x.restore(), 7 * round);
      Check.due("packets(2)", x.packets(2), round);
      Check.due("send(0, 1)", x.send(0, 1), round);
      x.run(7);
      Check.due("stateOf()", x.stateOf(round), 2);
    }
    Check.due("keep()", x.keep(), 35);
    Check.due("keep() once more", x.keep(), 35);
    Check.due("restore()", x.restore(), 35);
    Check.due("packets(2)", x.packets(2), 5);
  }

  private static void restoreAfterTheLastPacket() {
    Check.part("a checkpoint before packet 199, and one after it");
    MeshRouting x = new MeshRouting(2);
    for (int packet = 0; packet < 199; packet++) {
      x.send(0, 1);
    }
    x.keep();
    for (int round = 0; round < 3; round++) {
      Check.due("send(0, 1)", x.send(0, 1), 199);
      Check.state(x, "send(0, 1)", () -> x.send(0, 1));
      Check.due("restore()", x.restore(), 0);
      Check.bounds(x, "stateOf(199)", () -> x.stateOf(199));
      Check.due("stateOf(195)", x.stateOf(195), 0);
    }
    x.send(0, 1);
    x.keep();
    x.run(9);
    Check.due("restore()", x.restore(), 0);
    Check.state(x, "send(0, 1)", () -> x.send(0, 1));
    Check.due("forecast(0, 1, 0)", x.forecast(0, 1, 0), -1);
  }

  private static void restoreTwice() {
    Check.part("\"the checkpoint stays\"");
    MeshRouting x = Twins.made(Twins.BUSY);
    MeshRouting y = Twins.made(Twins.BUSY);
    x.keep();
    for (int round = 0; round < 4; round++) {
      x.run(round * 30);
      x.setLink(0, 1, 0);
      x.send(1, 3);
      Check.due("restore()", x.restore(), y.time());
      Check.due("fingerprint() of round " + round, x.fingerprint(), y.fingerprint());
      Check.due("restore() at once", x.restore(), y.time());
    }
    for (int event = 0; event < 60; event++) {
      Check.due("step " + event, x.step(), y.step());
      Check.due("fingerprint() after it", x.fingerprint(), y.fingerprint());
    }
  }

  /** Some of the messages that arrive at one time have arrived, when a checkpoint comes back. */
  private static void restoreBetweenArrivals() {
    Check.part("\"makes everything as the checkpoint keeps it\", between arrivals of one time");
    for (int arrived = 0; arrived <= 3; arrived++) {
      MeshRouting x = Check.mesh(5, 0, 1, 0, 2, 0, 3);
      x.keep();
      x.send(0, 4);
      for (int k = 0; k < arrived; k++) {
        Check.due("step()", x.step(), 0);
      }
      Check.due("damage(1, 4, 0)", x.damage(1, 4, 0), 0);
      Check.due("restore()", x.restore(), 0);
      Check.due("nextEvent(): nothing was on its way", x.nextEvent(), -1);
      Check.due("step()", x.step(), -1);
      x.send(1, 4);
      Check.due("inFlight(0)", x.inFlight(0), 1);
      Check.due("run(1)", x.run(1), 1);
      Check.due("isValid(0, 1)", x.isValid(0, 1), true);
      Check.due("isValid(2, 0)", x.isValid(2, 0), false);
      Check.part("and the checkpoint is between them itself");
      MeshRouting y = Check.mesh(5, 0, 1, 0, 2, 0, 3);
      y.send(0, 4);
      for (int k = 0; k < arrived; k++) {
        y.step();
      }
      y.keep();
      for (int round = 0; round < 3; round++) {
        Check.due("run(0)", y.run(0), arrived == 0 ? 0 : 3 - arrived);
        Check.due("run(1)", y.run(1), arrived == 0 ? 3 : 0);
        Check.due("isValid(3, 0)", y.isValid(3, 0), true);
        y.restore();
        Check.due("isValid(3, 0)", y.isValid(3, 0), arrived == 3);
      }
    }
  }

  /** What a checkpoint holds that no answer shows at once. */
  private static void keepEverything() {
    Check.part("\"keeps everything\": the requests that were handled, the tries, the ways back");
    MeshRouting x = Check.mesh(3, 0, 1, 1, 2, 0, 2);
    x.setParameter(1, 3);
    x.send(0, 1);
    x.setLink(0, 1, 0);
    x.step();
    x.keep();
    // 2 has handled the request of 0; the same one comes to it once more, by 1.
    int first = x.run(30);
    x.restore();
    Check.due("events", x.run(30), first);
    MeshRouting y = new MeshRouting(2);
    y.setParameter(3, 1);
    y.setParameter(5, 3);
    y.send(0, 1);
    y.step();
    y.step();
    y.keep();
    for (int round = 0; round < 3; round++) {
      Check.due("run(1000): two asks and the end", y.run(1000), 2);
      Check.due("searching(0, 1)", y.searching(0, 1), 0);
      Check.due("restore()", y.restore(), 40 + 220);
      Check.due("searching(0, 1)", y.searching(0, 1), 1);
    }
    MeshRouting z = PacketsTest.chainAt9();
    z.setParameter(7, 5);
    z.send(0, 3);
    z.setLink(2, 3, 0);
    z.keep();
    for (int parameter = 0; parameter < 8; parameter++) {
      z.setParameter(parameter, 2);
    }
    z.setLink(0, 1, 0);
    z.restore();
    int[] values = {60, 3, 2, 5, 10, 2, 20, 5};
    for (int parameter = 0; parameter < 8; parameter++) {
      Check.due("parameter " + parameter, z.setParameter(parameter, values[parameter]),
          values[parameter]);
    }
    Check.due("link(0, 1)", z.link(0, 1), 1);
    Check.due("link(2, 3)", z.link(2, 3), 0);
  }

  /** By the words of promise 35: an object without links, entries, packets and events. */
  private static long fingerprintOfNew(int nodes) {
    long print = 29;
    for (int k = 0; k < 9; k++) {
      print = print * 31;
    }
    for (int pair = 0; pair < nodes * (nodes - 1); pair++) {
      for (int number : new int[] {0, -1, -1, -2, 0, 0, 0}) {
        print = print * 31 + number;
      }
    }
    for (int k = 0; k < nodes + 4; k++) {
      print = print * 31;
    }
    return print;
  }

  private static void fingerprintOfEverySize() {
    Check.part("\"in long arithmetic with overflow\"");
    for (int nodes = 2; nodes <= 10; nodes++) {
      Check.due("fingerprint() of " + nodes, new MeshRouting(nodes).fingerprint(),
          fingerprintOfNew(nodes));
    }
    // Worked out with whole numbers of any length, and then cut down to 64 bits.
    java.math.BigInteger print = java.math.BigInteger.valueOf(29);
    int[] numbers = {5, 0, 0, 0, 0, 0, 0, 0, 0, 0, -1, -1, -2, 0, 1, 4, 0, -1, -1, -2, 0, 0, 0, 1, 0,
        4, 0, 0, 1};
    for (int number : numbers) {
      print = print.multiply(java.math.BigInteger.valueOf(31))
          .add(java.math.BigInteger.valueOf(number));
    }
    MeshRouting x = new MeshRouting(2);
    x.run(5);
    for (int packet = 0; packet < 5; packet++) {
      x.send(0, 1);
    }
    Check.due("fingerprint()", x.fingerprint(), print.longValue());
  }
}
